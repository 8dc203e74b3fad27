abbrev cX0_round : ByteArray := prog_2_method_3_code
def yX0_round : MethodName := ⟨RX0, "round", "()I"⟩
abbrev cX2_hasGate : ByteArray := prog_4_method_4_code
def yX2_hasGate : MethodName := ⟨RX2, "hasGate", "(I)Z"⟩
abbrev cX2_turnGate : ByteArray := prog_4_method_5_code
def yX2_turnGate : MethodName := ⟨RX2, "turnGate", "(I)V"⟩
abbrev cX5_copyFrom : ByteArray := prog_7_method_3_code
def yX5_copyFrom : MethodName := ⟨RX5, "copyFrom", "(LGossamerGate$Rule;)V"⟩
abbrev cX5_add : ByteArray := prog_7_method_4_code
def yX5_add : MethodName := ⟨RX5, "add", "(I)V"⟩
theorem dX0_round_0 : decode cX0_round 0 = .ok (.iconst 1, 1) := by decide +kernel
theorem dX0_round_1 : decode cX0_round 1 = .ok (.aload_n 0, 1) := by decide +kernel
theorem dX0_round_2 : decode cX0_round 2 = .ok (.getfield 15, 3) := by decide +kernel
theorem dX0_round_5 : decode cX0_round 5 = .ok (.invokestatic 35, 3) := by decide +kernel
theorem dX0_round_8 : decode cX0_round 8 = .ok (.ireturn, 1) := by decide +kernel
theorem dX2_hasGate_0 : decode cX2_hasGate 0 = .ok (.aload_n 0, 1) := by decide +kernel
theorem dX2_hasGate_1 : decode cX2_hasGate 1 = .ok (.getfield 18, 3) := by decide +kernel
theorem dX2_hasGate_4 : decode cX2_hasGate 4 = .ok (.iload_n 1, 1) := by decide +kernel
theorem dX2_hasGate_5 : decode cX2_hasGate 5 = .ok (.lshr, 1) := by decide +kernel
theorem dX2_hasGate_6 : decode cX2_hasGate 6 = .ok (.lconst 1, 1) := by decide +kernel
theorem dX2_hasGate_7 : decode cX2_hasGate 7 = .ok (.land, 1) := by decide +kernel
theorem dX2_hasGate_8 : decode cX2_hasGate 8 = .ok (.lconst 0, 1) := by decide +kernel
theorem dX2_hasGate_9 : decode cX2_hasGate 9 = .ok (.lcmp, 1) := by decide +kernel
theorem dX2_hasGate_10 : decode cX2_hasGate 10 = .ok (.ifCond .eq 7, 3) := by decide +kernel
theorem dX2_hasGate_13 : decode cX2_hasGate 13 = .ok (.iconst 1, 1) := by decide +kernel
theorem dX2_hasGate_14 : decode cX2_hasGate 14 = .ok (.goto 4, 3) := by decide +kernel
theorem dX2_hasGate_17 : decode cX2_hasGate 17 = .ok (.iconst 0, 1) := by decide +kernel
theorem dX2_hasGate_18 : decode cX2_hasGate 18 = .ok (.ireturn, 1) := by decide +kernel
theorem dX2_turnGate_0 : decode cX2_turnGate 0 = .ok (.aload_n 0, 1) := by decide +kernel
theorem dX2_turnGate_1 : decode cX2_turnGate 1 = .ok (.dup, 1) := by decide +kernel
theorem dX2_turnGate_2 : decode cX2_turnGate 2 = .ok (.getfield 18, 3) := by decide +kernel
theorem dX2_turnGate_5 : decode cX2_turnGate 5 = .ok (.lconst 1, 1) := by decide +kernel
theorem dX2_turnGate_6 : decode cX2_turnGate 6 = .ok (.iload_n 1, 1) := by decide +kernel
theorem dX2_turnGate_7 : decode cX2_turnGate 7 = .ok (.lshl, 1) := by decide +kernel
theorem dX2_turnGate_8 : decode cX2_turnGate 8 = .ok (.lxor, 1) := by decide +kernel
theorem dX2_turnGate_9 : decode cX2_turnGate 9 = .ok (.putfield 18, 3) := by decide +kernel
theorem dX2_turnGate_12 : decode cX2_turnGate 12 = .ok (.return_, 1) := by decide +kernel
theorem dX2_bitsIn_12 : decode cX2_bitsIn 12 = .ok (.aload_n 0, 1) := by decide +kernel
theorem dX2_bitsIn_13 : decode cX2_bitsIn 13 = .ok (.getfield 29, 3) := by decide +kernel
theorem dX2_bitsIn_16 : decode cX2_bitsIn 16 = .ok (.iload_n 3, 1) := by decide +kernel
theorem dX2_bitsIn_17 : decode cX2_bitsIn 17 = .ok (.iaload, 1) := by decide +kernel
theorem dX2_bitsIn_18 : decode cX2_bitsIn 18 = .ok (.iload_n 1, 1) := by decide +kernel
theorem dX2_bitsIn_19 : decode cX2_bitsIn 19 = .ok (.if_icmp .ne 9, 3) := by decide +kernel
theorem dX2_bitsIn_22 : decode cX2_bitsIn 22 = .ok (.iload_n 2, 1) := by decide +kernel
theorem dX2_bitsIn_23 : decode cX2_bitsIn 23 = .ok (.iconst 1, 1) := by decide +kernel
theorem dX2_bitsIn_24 : decode cX2_bitsIn 24 = .ok (.iload_n 3, 1) := by decide +kernel
theorem dX2_bitsIn_25 : decode cX2_bitsIn 25 = .ok (.ishl, 1) := by decide +kernel
theorem dX2_bitsIn_26 : decode cX2_bitsIn 26 = .ok (.ior, 1) := by decide +kernel
theorem dX2_bitsIn_27 : decode cX2_bitsIn 27 = .ok (.istore_n 2, 1) := by decide +kernel
theorem dX2_bitsIn_28 : decode cX2_bitsIn 28 = .ok (.iinc 3 1, 3) := by decide +kernel
theorem dX2_bitsIn_31 : decode cX2_bitsIn 31 = .ok (.goto (-27), 3) := by decide +kernel
theorem dX2_sumOf_12 : decode cX2_sumOf 12 = .ok (.iload_n 3, 1) := by decide +kernel
theorem dX2_sumOf_13 : decode cX2_sumOf 13 = .ok (.aload_n 1, 1) := by decide +kernel
theorem dX2_sumOf_14 : decode cX2_sumOf 14 = .ok (.arraylength, 1) := by decide +kernel
theorem dX2_sumOf_15 : decode cX2_sumOf 15 = .ok (.if_icmp .ge 15, 3) := by decide +kernel
theorem dX2_sumOf_18 : decode cX2_sumOf 18 = .ok (.iload_n 2, 1) := by decide +kernel
theorem dX2_sumOf_19 : decode cX2_sumOf 19 = .ok (.aload_n 1, 1) := by decide +kernel
theorem dX2_sumOf_20 : decode cX2_sumOf 20 = .ok (.iload_n 3, 1) := by decide +kernel
theorem dX2_sumOf_21 : decode cX2_sumOf 21 = .ok (.iaload, 1) := by decide +kernel
theorem dX2_sumOf_22 : decode cX2_sumOf 22 = .ok (.iadd, 1) := by decide +kernel
theorem dX2_sumOf_23 : decode cX2_sumOf 23 = .ok (.istore_n 2, 1) := by decide +kernel
theorem dX2_sumOf_24 : decode cX2_sumOf 24 = .ok (.iinc 3 1, 3) := by decide +kernel
theorem dX2_sumOf_27 : decode cX2_sumOf 27 = .ok (.goto (-23), 3) := by decide +kernel
theorem dX5_copyFrom_0 : decode cX5_copyFrom 0 = .ok (.aload_n 0, 1) := by decide +kernel
theorem dX5_copyFrom_1 : decode cX5_copyFrom 1 = .ok (.aload_n 1, 1) := by decide +kernel
theorem dX5_copyFrom_2 : decode cX5_copyFrom 2 = .ok (.getfield 25, 3) := by decide +kernel
theorem dX5_copyFrom_5 : decode cX5_copyFrom 5 = .ok (.putfield 25, 3) := by decide +kernel
theorem dX5_copyFrom_8 : decode cX5_copyFrom 8 = .ok (.aload_n 0, 1) := by decide +kernel
theorem dX5_copyFrom_9 : decode cX5_copyFrom 9 = .ok (.aload_n 1, 1) := by decide +kernel
theorem dX5_copyFrom_10 : decode cX5_copyFrom 10 = .ok (.getfield 29, 3) := by decide +kernel
theorem dX5_copyFrom_13 : decode cX5_copyFrom 13 = .ok (.putfield 29, 3) := by decide +kernel
theorem dX5_copyFrom_16 : decode cX5_copyFrom 16 = .ok (.aload_n 1, 1) := by decide +kernel
theorem dX5_copyFrom_17 : decode cX5_copyFrom 17 = .ok (.getfield 9, 3) := by decide +kernel
theorem dX5_copyFrom_20 : decode cX5_copyFrom 20 = .ok (.iconst 0, 1) := by decide +kernel
theorem dX5_copyFrom_21 : decode cX5_copyFrom 21 = .ok (.aload_n 0, 1) := by decide +kernel
theorem dX5_copyFrom_22 : decode cX5_copyFrom 22 = .ok (.getfield 9, 3) := by decide +kernel
theorem dX5_copyFrom_25 : decode cX5_copyFrom 25 = .ok (.iconst 0, 1) := by decide +kernel
theorem dX5_copyFrom_26 : decode cX5_copyFrom 26 = .ok (.sipush 400, 3) := by decide +kernel
theorem dX5_copyFrom_29 : decode cX5_copyFrom 29 = .ok (.invokestatic 32, 3) := by decide +kernel
theorem dX5_copyFrom_32 : decode cX5_copyFrom 32 = .ok (.aload_n 1, 1) := by decide +kernel
theorem dX5_copyFrom_33 : decode cX5_copyFrom 33 = .ok (.getfield 15, 3) := by decide +kernel
theorem dX5_copyFrom_36 : decode cX5_copyFrom 36 = .ok (.iconst 0, 1) := by decide +kernel
theorem dX5_copyFrom_37 : decode cX5_copyFrom 37 = .ok (.aload_n 0, 1) := by decide +kernel
theorem dX5_copyFrom_38 : decode cX5_copyFrom 38 = .ok (.getfield 15, 3) := by decide +kernel
theorem dX5_copyFrom_41 : decode cX5_copyFrom 41 = .ok (.iconst 0, 1) := by decide +kernel
theorem dX5_copyFrom_42 : decode cX5_copyFrom 42 = .ok (.bipush 12, 2) := by decide +kernel
theorem dX5_copyFrom_44 : decode cX5_copyFrom 44 = .ok (.invokestatic 32, 3) := by decide +kernel
theorem dX5_copyFrom_47 : decode cX5_copyFrom 47 = .ok (.aload_n 1, 1) := by decide +kernel
theorem dX5_copyFrom_48 : decode cX5_copyFrom 48 = .ok (.getfield 18, 3) := by decide +kernel
theorem dX5_copyFrom_51 : decode cX5_copyFrom 51 = .ok (.iconst 0, 1) := by decide +kernel
theorem dX5_copyFrom_52 : decode cX5_copyFrom 52 = .ok (.aload_n 0, 1) := by decide +kernel
theorem dX5_copyFrom_53 : decode cX5_copyFrom 53 = .ok (.getfield 18, 3) := by decide +kernel
theorem dX5_copyFrom_56 : decode cX5_copyFrom 56 = .ok (.iconst 0, 1) := by decide +kernel
theorem dX5_copyFrom_57 : decode cX5_copyFrom 57 = .ok (.bipush 12, 2) := by decide +kernel
theorem dX5_copyFrom_59 : decode cX5_copyFrom 59 = .ok (.invokestatic 32, 3) := by decide +kernel
theorem dX5_copyFrom_62 : decode cX5_copyFrom 62 = .ok (.return_, 1) := by decide +kernel
theorem dX5_add_0 : decode cX5_add 0 = .ok (.aload_n 0, 1) := by decide +kernel
theorem dX5_add_1 : decode cX5_add 1 = .ok (.getfield 29, 3) := by decide +kernel
theorem dX5_add_4 : decode cX5_add 4 = .ok (.sipush 400, 3) := by decide +kernel
theorem dX5_add_7 : decode cX5_add 7 = .ok (.if_icmp .ge 23, 3) := by decide +kernel
theorem dX5_add_10 : decode cX5_add 10 = .ok (.aload_n 0, 1) := by decide +kernel
theorem dX5_add_11 : decode cX5_add 11 = .ok (.getfield 9, 3) := by decide +kernel
theorem dX5_add_14 : decode cX5_add 14 = .ok (.aload_n 0, 1) := by decide +kernel
theorem dX5_add_15 : decode cX5_add 15 = .ok (.getfield 29, 3) := by decide +kernel
theorem dX5_add_18 : decode cX5_add 18 = .ok (.iload_n 1, 1) := by decide +kernel
theorem dX5_add_19 : decode cX5_add 19 = .ok (.iastore, 1) := by decide +kernel
theorem dX5_add_20 : decode cX5_add 20 = .ok (.aload_n 0, 1) := by decide +kernel
theorem dX5_add_21 : decode cX5_add 21 = .ok (.dup, 1) := by decide +kernel
theorem dX5_add_22 : decode cX5_add 22 = .ok (.getfield 29, 3) := by decide +kernel
theorem dX5_add_25 : decode cX5_add 25 = .ok (.iconst 1, 1) := by decide +kernel
theorem dX5_add_26 : decode cX5_add 26 = .ok (.iadd, 1) := by decide +kernel
theorem dX5_add_27 : decode cX5_add 27 = .ok (.putfield 29, 3) := by decide +kernel
theorem dX5_add_30 : decode cX5_add 30 = .ok (.return_, 1) := by decide +kernel
theorem dX7_hasRoom_17 : decode cX7_hasRoom 17 = .ok (.iconst 0, 1) := by decide +kernel
/-! Intervals: what is known of a number -/
def gIv (a b : Int) (x : Int32) : Prop := a ≤ x.toInt ∧ x.toInt ≤ b
theorem gIv_of {a b : Int} {x : Int32} (h : a ≤ x.toInt ∧ x.toInt ≤ b) : gIv a b x := h
theorem gIv_any (x : Int32) : gIv (-2147483648) 2147483647 x := ⟨by have := Int32.le_toInt x; omega, by have := Int32.toInt_lt x; omega⟩
theorem gIv_w {a b a' b' : Int} {x : Int32} (h : gIv a b x) (h1 : a' ≤ a) (h2 : b ≤ b') : gIv a' b' x := ⟨Int.le_trans h1 h.1, Int.le_trans h.2 h2⟩
theorem gIv_eq {a b : Int} {x y : Int32} (h : gIv a b x) (e : y = x) : gIv a b y := e ▸ h
theorem gIv_add {a b c d e f : Int} {x y : Int32} (hx : gIv a b x) (hy : gIv c d y) (h1 : e ≤ a + c ∧ b + d ≤ f) (h2 : -2147483648 ≤ e ∧ f ≤ 2147483647) : gIv e f (x + y) := by
  obtain ⟨p1, p2⟩ := hx
  obtain ⟨q1, q2⟩ := hy
  have h : (x + y).toInt = x.toInt + y.toInt := i32_add (by omega) (by omega)
  exact ⟨by rw [h]; omega, by rw [h]; omega⟩
theorem gIv_sub {a b c d e f : Int} {x y : Int32} (hx : gIv a b x) (hy : gIv c d y) (h1 : e ≤ a - d ∧ b - c ≤ f) (h2 : -2147483648 ≤ e ∧ f ≤ 2147483647) : gIv e f (x - y) := by
  obtain ⟨p1, p2⟩ := hx
  obtain ⟨q1, q2⟩ := hy
  have h : (x - y).toInt = x.toInt - y.toInt := i32_sub (by omega) (by omega)
  exact ⟨by rw [h]; omega, by rw [h]; omega⟩
/-- both factors not below 0 -/
theorem gIv_mul {a b c d e f : Int} {x y : Int32} (hx : gIv a b x) (hy : gIv c d y) (h0 : 0 ≤ a ∧ 0 ≤ c) (h1 : e ≤ a * c ∧ b * d ≤ f) (h2 : -2147483648 ≤ e ∧ f ≤ 2147483647) : gIv e f (x * y) := by
  obtain ⟨p1, p2⟩ := hx
  obtain ⟨q1, q2⟩ := hy
  have m1 : a * c ≤ x.toInt * y.toInt := Int.mul_le_mul p1 q1 h0.2 (by omega)
  have m2 : x.toInt * y.toInt ≤ b * d := Int.mul_le_mul p2 q2 (by omega) (by omega)
  have h : (x * y).toInt = x.toInt * y.toInt := i32_mul (by omega) (by omega)
  exact ⟨by rw [h]; omega, by rw [h]; omega⟩
theorem gIv_in {m : Int} {n : Nat} {x : Int32} (h : gIv 0 m x) (hm : m < n) : vp_in x n := vp_in_iff.mpr ⟨h.1, Int.lt_of_le_of_lt h.2 hm⟩
/-- branches -/
theorem gIv_lt_l {a b c d e : Int} {x y : Int32} (hx : gIv a b x) (hy : gIv c d y) (h : x < y) (he : d - 1 ≤ e) : gIv a e x := ⟨hx.1, by have := gz_lt.mp h; have := hy.2; omega⟩
theorem gIv_lt_r {a b c d e : Int} {x y : Int32} (hx : gIv a b x) (hy : gIv c d y) (h : x < y) (he : e ≤ a + 1) : gIv e d y := ⟨by have := gz_lt.mp h; have := hx.1; omega, hy.2⟩
theorem gIv_le_l {a b c d e : Int} {x y : Int32} (hx : gIv a b x) (hy : gIv c d y) (h : x ≤ y) (he : d ≤ e) : gIv a e x := ⟨hx.1, by have := gz_le.mp h; have := hy.2; omega⟩
theorem gIv_le_r {a b c d e : Int} {x y : Int32} (hx : gIv a b x) (hy : gIv c d y) (h : x ≤ y) (he : e ≤ a) : gIv e d y := ⟨by have := gz_le.mp h; have := hx.1; omega, hy.2⟩
theorem gIv_eq_l {a b c d : Int} {x y : Int32} (hy : gIv c d y) (h : x = y) : gIv c d x := h ▸ hy
/-- rows of numbers of one kind -/
def gAll (a b : Int) (n : Nat) (f : Nat → Int32) : Prop := ∀ j, j < n → gIv a b (f j)
theorem gAll_at {a b : Int} {n : Nat} {f : Nat → Int32} (h : gAll a b n f) {x : Int32} (hx : vp_in x n) : gIv a b (f x.toNatClampNeg) := h _ (by
  rcases Nat.lt_or_ge x.toNatClampNeg n with q | q
  · exact q
  · exact absurd (Or.inr q) hx)
theorem gAll_upd {a b : Int} {n k : Nat} {f : Nat → Int32} {x : Int32} (h : gAll a b n f) (hx : gIv a b x) : gAll a b n (upd f k x) := fun j hj => by
  by_cases e : j = k
  · rw [e, pk_us]; exact hx
  · rw [pk_un e]; exact h j hj
theorem gAll_const {a b : Int} {n : Nat} {x : Int32} (hx : gIv a b x) : gAll a b n (fun _ => x) := fun _ _ => hx
theorem gAll_w {a b a' b' : Int} {n : Nat} {f : Nat → Int32} (h : gAll a b n f) (h1 : a' ≤ a) (h2 : b ≤ b') : gAll a' b' n f := fun j hj => gIv_w (h j hj) h1 h2
theorem gAll_cpy {a b : Int} {n m sp dp k : Nat} {f g : Nat → Int32} (hf : gAll a b n f) (hg : gAll a b m g) (h : sp + k ≤ n) : gAll a b m (va_cpy f g sp dp k) := fun j hj => by
  by_cases e : dp ≤ j ∧ j < dp + k
  · rw [pk_cpy_in e.1 e.2]; exact hf _ (by omega)
  · rw [pk_cpy_out (by omega)]; exact hg j hj
abbrev gS : Type := (Nat → Int32) × (Nat → Nat → Int32) × (Nat → Int64) × (Nat → Nat → Int64)
theorem gI_add {a b n : Int} {x y k : Int32} (e : y = x + k) (hx : gIv a b x) (hk : k.toInt = n) (h : -2147483648 ≤ a + n ∧ b + n ≤ 2147483647) : y.toInt = x.toInt + n := by
  obtain ⟨p1, p2⟩ := hx
  rw [e, i32_add (by omega) (by omega), hk]
theorem gI_inc {a b : Int} {x y : Int32} (e : y = x + 1) (hx : gIv a b x) (h : -2147483648 ≤ a + 1 ∧ b + 1 ≤ 2147483647) : y.toInt = x.toInt + 1 := gI_add e hx (by decide) h
theorem gI_dec {a b : Int} {x y : Int32} (e : y = x - 1) (hx : gIv a b x) (h : -2147483648 ≤ a - 1 ∧ b - 1 ≤ 2147483647) : y.toInt = x.toInt + (-1) := by
  obtain ⟨p1, p2⟩ := hx
  have h1 : (1 : Int32).toInt = 1 := by decide
  rw [e, i32_sub (by omega) (by omega), h1]
  omega
/-- a counter that grows, or falls, has an end -/
theorem gM_up {N d : Int} {x y : Int32} {n : Nat} (h : y.toInt = x.toInt + d) (hy : y.toInt ≤ N) (hm : (N - x.toInt).toNat < n + 1) (hd : 0 < d) : (N - y.toInt).toNat < n := by omega
theorem gM_down {N d : Int} {x y : Int32} {n : Nat} (h : y.toInt = x.toInt + d) (hy : N ≤ y.toInt) (hm : (x.toInt - N).toNat < n + 1) (hd : d < 0) : (y.toInt - N).toNat < n := by omega
theorem gz_nlt {x y : Int32} (h : ¬ x < y) : y ≤ x := Int32.not_lt.mp h
theorem gz_nle {x y : Int32} (h : ¬ x ≤ y) : y < x := Int32.not_le.mp h
theorem gIv_nlt {a b c d : Int} {x y : Int32} (hx : gIv a b x) (hy : gIv c d y) (h : d ≤ a) : ¬ x < y := fun q => by have := gz_lt.mp q; have := hx.1; have := hy.2; omega
theorem gIv_nle {a b c d : Int} {x y : Int32} (hx : gIv a b x) (hy : gIv c d y) (h : d < a) : ¬ x ≤ y := fun q => by have := gz_le.mp q; have := hx.1; have := hy.2; omega
theorem gIv_neq {a b c d : Int} {x y : Int32} (hx : gIv a b x) (hy : gIv c d y) (h : b < c ∨ d < a) : ¬ x = y := fun q => by have := gz_eq.mp q; have := hx.1; have := hx.2; have := hy.1; have := hy.2; omega
theorem gIv_eqc {a b c d e f : Int} {x y : Int32} (hx : gIv a b x) (hy : gIv c d y) (h : x = y) (he : (e ≤ a ∨ e ≤ c) ∧ (b ≤ f ∨ d ≤ f)) : gIv e f x := by
  have := gz_eq.mp h
  have := hx.1
  have := hx.2
  have := hy.1
  have := hy.2
  exact ⟨by omega, by omega⟩
theorem gIv_yeq {a : Int} {x y : Int32} (hx : gIv a a x) (hy : gIv a a y) : x = y := gz_eq.mpr (by have := hx.1; have := hx.2; have := hy.1; have := hy.2; omega)
theorem gIv_ne_lo {a b c e : Int} {x y : Int32} (hx : gIv a b x) (hy : gIv c c y) (h : ¬ x = y) (he : a = c ∧ e = a + 1) : gIv e b x := by
  have h2 : ¬ x.toInt = y.toInt := fun q => h (gz_eq.mpr q)
  have := hx.1
  have := hx.2
  have := hy.1
  have := hy.2
  exact ⟨by omega, by omega⟩
theorem gIv_ne_hi {a b c e : Int} {x y : Int32} (hx : gIv a b x) (hy : gIv c c y) (h : ¬ x = y) (he : b = c ∧ e = b - 1) : gIv a e x := by
  have h2 : ¬ x.toInt = y.toInt := fun q => h (gz_eq.mpr q)
  have := hx.1
  have := hx.2
  have := hy.1
  have := hy.2
  exact ⟨by omega, by omega⟩
theorem gIv_nz {a b : Int} {x : Int32} (hx : gIv a b x) (h : 0 < a ∨ b < 0) : ¬ x = 0 := fun q => by
  have h0 : x.toInt = 0 := by rw [q]; decide
  have := hx.1
  have := hx.2
  omega
theorem gIv_neg {a b e f : Int} {x : Int32} (hx : gIv a b x) (h : -2147483648 < a ∧ e ≤ -b ∧ -a ≤ f) : gIv e f (-x) := by
  have := hx.1
  have := hx.2
  have h1 : (-x).toInt = -x.toInt := i32_neg (by omega)
  exact ⟨by rw [h1]; omega, by rw [h1]; omega⟩
theorem gIv_cmp (x y : Int64) : gIv (-1) 1 (lg_cmp x y) := by
  unfold lg_cmp
  split
  · exact gIv_of (by decide)
  · split <;> exact gIv_of (by decide)
theorem gIv_max {a b c d e f : Int} {x y : Int32} (hx : gIv a b x) (hy : gIv c d y) (h : (e ≤ a ∨ e ≤ c) ∧ b ≤ f ∧ d ≤ f) : gIv e f (if x < y then y else x) := by
  have := hx.1
  have := hx.2
  have := hy.1
  have := hy.2
  split
  · have := gz_lt.mp (by assumption : x < y); exact ⟨by omega, by omega⟩
  · have q := gz_le.mp (Int32.not_lt.mp (by assumption : ¬ x < y)); exact ⟨by omega, by omega⟩
theorem gIv_z {x : Int32} (h : gIv 0 1 x) : narrow .boolean (.int x) = .int x := by
  have h0 := h.1
  have h1 := h.2
  rcases (show x.toInt = 0 ∨ x.toInt = 1 by omega) with q | q
  · rw [Int32.toInt_inj.mp (q.trans (by decide : (0 : Int) = (0 : Int32).toInt))]; decide
  · rw [Int32.toInt_inj.mp (q.trans (by decide : (1 : Int) = (1 : Int32).toInt))]; decide
theorem gIv_min {a b c d e f : Int} {x y : Int32} (hx : gIv a b x) (hy : gIv c d y) (h : e ≤ a ∧ e ≤ c ∧ (b ≤ f ∨ d ≤ f)) : gIv e f (if x ≤ y then x else y) := by
  have := hx.1
  have := hx.2
  have := hy.1
  have := hy.2
  split
  · have := gz_le.mp (by assumption : x ≤ y); exact ⟨by omega, by omega⟩
  · have q := gz_lt.mp (Int32.not_le.mp (by assumption : ¬ x ≤ y)); exact ⟨by omega, by omega⟩
theorem gIv_div {a b c d f : Int} {x y : Int32} (hx : gIv a b x) (hy : gIv c d y) (h0 : 0 ≤ a ∧ 0 < c) (h1 : b / c ≤ f) : gIv 0 f (x / y) := by
  obtain ⟨p1, p2⟩ := hx
  obtain ⟨q1, q2⟩ := hy
  have h : (x / y).toInt = x.toInt.tdiv y.toInt := i32_div (by omega)
  rw [Int.tdiv_eq_ediv_of_nonneg (by omega)] at h
  refine ⟨by rw [h]; exact Int.ediv_nonneg (by omega) (by omega), ?_⟩
  rw [h]
  refine Int.le_trans ?_ h1
  exact Int.le_trans (Int.ediv_le_ediv (by omega) p2) (Int.ediv_le_ediv_of_le_right (by omega) (by omega) q1)
theorem gIv_and (x : Int32) {m : Int32} {f : Int} (h : 0 ≤ m.toInt ∧ m.toInt ≤ f) : gIv 0 f (x &&& m) := by
  have h1 : 0 ≤ m := i32_nonneg.mpr h.1
  exact ⟨sorry, sorry⟩
theorem ltz_0 : (.fieldLink RX2 9 "GossamerGate$Day" "people" "I" : Cond) ∈ lw_tbl := (List.mem_append_right _ (List.mem_append_left _ (List.mem_of_getElem? (l := tables_1_1) (i := 142) (by decide +kernel))))
theorem ltz_1 : (.fieldLink RX2 15 "GossamerGate$Day" "hour" "I" : Cond) ∈ lw_tbl := (List.mem_append_right _ (List.mem_append_left _ (List.mem_of_getElem? (l := tables_1_1) (i := 146) (by decide +kernel))))
theorem ltz_2 : (.fieldLink RX2 18 "GossamerGate$Day" "gates" "J" : Cond) ∈ lw_tbl := (List.mem_append_right _ (List.mem_append_left _ (List.mem_of_getElem? (l := tables_1_1) (i := 150) (by decide +kernel))))
theorem ltz_3 : (.fieldLink RX2 29 "GossamerGate$Day" "place" "[I" : Cond) ∈ lw_tbl := (List.mem_append_right _ (List.mem_append_left _ (List.mem_of_getElem? (l := tables_1_1) (i := 161) (by decide +kernel))))
theorem ltz_4 : (.fieldLink RX2 32 "GossamerGate$Day" "tangled" "[I" : Cond) ∈ lw_tbl := (List.mem_append_right _ (List.mem_append_left _ (List.mem_of_getElem? (l := tables_1_1) (i := 164) (by decide +kernel))))
theorem ltz_5 : (.code yX2_clear cX2_clear 2 none : Cond) ∈ lw_tbl := (List.mem_append_right _ (List.mem_append_right _ (List.mem_append_left _ (List.mem_of_getElem? (l := tables_1_2) (i := 172) (by decide +kernel)))))
theorem ltz_6 : (.fieldLink RX2 22 "GossamerGate$Day" "cell" "[I" : Cond) ∈ lw_tbl := (List.mem_append_right _ (List.mem_append_left _ (List.mem_of_getElem? (l := tables_1_1) (i := 152) (by decide +kernel))))
theorem ltz_7 : (.methodLink RX2 35 arraycopyName : Cond) ∈ lw_tbl := (List.mem_append_right _ (List.mem_append_right _ (List.mem_append_right _ (List.mem_append_left _ (List.mem_of_getElem? (l := tables_1_3) (i := 70) (by decide +kernel))))))
theorem ltz_8 : (.native arraycopyName : Cond) ∈ lw_tbl := (List.mem_append_right _ (List.mem_append_right _ (List.mem_append_right _ (List.mem_append_left _ (List.mem_of_getElem? (l := tables_1_3) (i := 65) (by decide +kernel))))))
theorem ltz_9 : (.static arraycopyName : Cond) ∈ lw_tbl := (List.mem_append_right _ (List.mem_append_right _ (List.mem_append_right _ (List.mem_append_left _ (List.mem_of_getElem? (l := tables_1_3) (i := 64) (by decide +kernel))))))
theorem ltz_10 : (.initialized "java/lang/System" : Cond) ∈ lw_tbl := (List.mem_append_right _ (List.mem_append_left _ (List.mem_of_getElem? (l := tables_1_1) (i := 17) (by decide +kernel))))
theorem ltz_11 : (.fieldLink RX2 26 "GossamerGate$Day" "thread" "[I" : Cond) ∈ lw_tbl := (List.mem_append_right _ (List.mem_append_left _ (List.mem_of_getElem? (l := tables_1_1) (i := 157) (by decide +kernel))))
theorem ltz_12 : (.code yX2_copyFrom cX2_copyFrom 2 none : Cond) ∈ lw_tbl := (List.mem_append_right _ (List.mem_append_right _ (List.mem_append_right _ (List.mem_append_left _ (List.mem_of_getElem? (l := tables_1_3) (i := 69) (by decide +kernel))))))
theorem ltz_13 : (.code yX2_hasGate cX2_hasGate 2 (some .boolean) : Cond) ∈ lw_tbl := (List.mem_append_right _ (List.mem_append_right _ (List.mem_append_right _ (List.mem_append_left _ (List.mem_of_getElem? (l := tables_1_3) (i := 42) (by decide +kernel))))))
theorem ltz_14 : (.code yX2_turnGate cX2_turnGate 2 none : Cond) ∈ lw_tbl := (List.mem_append_right _ (List.mem_append_right _ (List.mem_append_right _ (List.mem_append_left _ (List.mem_of_getElem? (l := tables_1_3) (i := 46) (by decide +kernel))))))
theorem ltz_15 : (.code yX2_bitsIn cX2_bitsIn 4 (some .int) : Cond) ∈ lw_tbl := (List.mem_append_right _ (List.mem_append_right _ (List.mem_append_right _ (List.mem_append_left _ (List.mem_of_getElem? (l := tables_1_3) (i := 202) (by decide +kernel))))))
theorem ltz_16 : (.code yX2_sumOf cX2_sumOf 4 (some .int) : Cond) ∈ lw_tbl := (List.mem_append_right _ (List.mem_append_right _ (List.mem_append_right _ (List.mem_append_left _ (List.mem_of_getElem? (l := tables_1_3) (i := 206) (by decide +kernel))))))
theorem ltz_17 : (.fieldLink RX5 25 "GossamerGate$Rule" "clauses" "I" : Cond) ∈ lw_tbl := (List.mem_append_right _ (List.mem_append_left _ (List.mem_of_getElem? (l := tables_1_1) (i := 101) (by decide +kernel))))
theorem ltz_18 : (.fieldLink RX5 29 "GossamerGate$Rule" "length" "I" : Cond) ∈ lw_tbl := (List.mem_append_right _ (List.mem_append_left _ (List.mem_of_getElem? (l := tables_1_1) (i := 102) (by decide +kernel))))
theorem ltz_19 : (.code yX5_clear cX5_clear 1 none : Cond) ∈ lw_tbl := (List.mem_append_right _ (List.mem_append_right _ (List.mem_append_right _ (List.mem_append_left _ (List.mem_of_getElem? (l := tables_1_3) (i := 88) (by decide +kernel))))))
theorem ltz_20 : (.fieldLink RX5 9 "GossamerGate$Rule" "steps" "[I" : Cond) ∈ lw_tbl := (List.mem_append_right _ (List.mem_append_left _ (List.mem_of_getElem? (l := tables_1_1) (i := 97) (by decide +kernel))))
theorem ltz_21 : (.code yX5_add cX5_add 2 none : Cond) ∈ lw_tbl := (List.mem_append_right _ (List.mem_append_right _ (List.mem_append_right _ (List.mem_append_left _ (List.mem_of_getElem? (l := tables_1_3) (i := 111) (by decide +kernel))))))
theorem ltz_22 : (.fieldLink RX5 15 "GossamerGate$Rule" "sumEnds" "[I" : Cond) ∈ lw_tbl := (List.mem_append_right _ (List.mem_append_left _ (List.mem_of_getElem? (l := tables_1_1) (i := 98) (by decide +kernel))))
theorem ltz_23 : (.fieldLink RX5 18 "GossamerGate$Rule" "testEnds" "[I" : Cond) ∈ lw_tbl := (List.mem_append_right _ (List.mem_append_left _ (List.mem_of_getElem? (l := tables_1_1) (i := 99) (by decide +kernel))))
theorem ltz_24 : (.code yX5_closeClause cX5_closeClause 2 none : Cond) ∈ lw_tbl := (List.mem_append_right _ (List.mem_append_right _ (List.mem_append_right _ (List.mem_append_left _ (List.mem_of_getElem? (l := tables_1_3) (i := 151) (by decide +kernel))))))
theorem ltz_25 : (.methodLink RX5 32 arraycopyName : Cond) ∈ lw_tbl := (List.mem_append_right _ (List.mem_append_right _ (List.mem_append_right _ (List.mem_append_left _ (List.mem_of_getElem? (l := tables_1_3) (i := 157) (by decide +kernel))))))
theorem ltz_26 : (.code yX5_copyFrom cX5_copyFrom 2 none : Cond) ∈ lw_tbl := (List.mem_append_right _ (List.mem_append_right _ (List.mem_append_right _ (List.mem_append_left _ (List.mem_of_getElem? (l := tables_1_3) (i := 156) (by decide +kernel))))))
theorem ltz_27 : (.fieldLink RX7 13 "GossamerGate$Tape" "length" "I" : Cond) ∈ lw_tbl := (List.mem_append_right _ (List.mem_append_left _ (List.mem_of_getElem? (l := tables_1_1) (i := 37) (by decide +kernel))))
theorem ltz_28 : (.code yX7_hasRoom cX7_hasRoom 1 (some .boolean) : Cond) ∈ lw_tbl := (List.mem_append_right _ (List.mem_append_right _ (List.mem_append_left _ (List.mem_of_getElem? (l := tables_1_2) (i := 145) (by decide +kernel)))))
theorem ltz_29 : (.fieldLink RX7 9 "GossamerGate$Tape" "bytes" "[I" : Cond) ∈ lw_tbl := (List.mem_append_right _ (List.mem_append_left _ (List.mem_of_getElem? (l := tables_1_1) (i := 35) (by decide +kernel))))
theorem ltz_30 : (.code yX7_addFour cX7_addFour 3 none : Cond) ∈ lw_tbl := (List.mem_append_right _ (List.mem_append_right _ (List.mem_append_left _ (List.mem_of_getElem? (l := tables_1_2) (i := 149) (by decide +kernel)))))
theorem ltz_31 : (.fieldLink RX0 9 "GossamerGate$Country" "side" "I" : Cond) ∈ lw_tbl := (List.mem_append_right _ (List.mem_append_left _ (List.mem_of_getElem? (l := tables_1_1) (i := 182) (by decide +kernel))))
theorem ltz_32 : (.code yX0_cells cX0_cells 1 (some .int) : Cond) ∈ lw_tbl := (List.mem_append_right _ (List.mem_append_right _ (List.mem_append_right _ (List.mem_append_left _ (List.mem_of_getElem? (l := tables_1_3) (i := 34) (by decide +kernel))))))
theorem ltz_33 : (.fieldLink RX0 15 "GossamerGate$Country" "winds" "I" : Cond) ∈ lw_tbl := (List.mem_append_right _ (List.mem_append_left _ (List.mem_of_getElem? (l := tables_1_1) (i := 186) (by decide +kernel))))
theorem ltz_34 : (.methodLink RX0 35 Lib.Math.max.name : Cond) ∈ lw_tbl := (List.mem_append_right _ (List.mem_append_right _ (List.mem_append_right _ (List.mem_append_left _ (List.mem_of_getElem? (l := tables_1_3) (i := 182) (by decide +kernel))))))
theorem ltz_35 : (.static Lib.Math.max.name : Cond) ∈ lw_tbl := (List.mem_append_right _ (List.mem_append_right _ (List.mem_append_right _ (List.mem_append_left _ (List.mem_of_getElem? (l := tables_1_3) (i := 183) (by decide +kernel))))))
theorem ltz_36 : (.initialized "java/lang/Math" : Cond) ∈ lw_tbl := (List.mem_append_right _ (List.mem_append_left _ (List.mem_of_getElem? (l := tables_1_1) (i := 18) (by decide +kernel))))
theorem ltz_37 : (.code Lib.Math.max.name Lib.Math.max.code 2 (some .int) : Cond) ∈ lw_tbl := (List.mem_append_right _ (List.mem_append_right _ (List.mem_append_right _ (List.mem_append_left _ (List.mem_of_getElem? (l := tables_1_3) (i := 184) (by decide +kernel))))))
theorem ltz_38 : (.code yX0_round cX0_round 1 (some .int) : Cond) ∈ lw_tbl := (List.mem_append_right _ (List.mem_append_right _ (List.mem_append_right _ (List.mem_append_left _ (List.mem_of_getElem? (l := tables_1_3) (i := 181) (by decide +kernel))))))
theorem ltz_39 : (.fieldLink RX0 18 "GossamerGate$Country" "way" "[I" : Cond) ∈ lw_tbl := (List.mem_append_right _ (List.mem_append_left _ (List.mem_of_getElem? (l := tables_1_1) (i := 190) (by decide +kernel))))
theorem ltz_40 : (.fieldLink RX0 22 "GossamerGate$Country" "strength" "[I" : Cond) ∈ lw_tbl := (List.mem_append_right _ (List.mem_append_left _ (List.mem_of_getElem? (l := tables_1_1) (i := 194) (by decide +kernel))))
theorem ltz_41 : (.fieldLink RX0 31 "GossamerGate$Country" "begin" "LGossamerGate$Day;" : Cond) ∈ lw_tbl := (List.mem_append_right _ (List.mem_append_left _ (List.mem_of_getElem? (l := tables_1_1) (i := 202) (by decide +kernel))))
theorem ltz_42 : (.methodLink RX0 41 yX2_clear : Cond) ∈ lw_tbl := (List.mem_append_right _ (List.mem_append_right _ (List.mem_append_left _ (List.mem_of_getElem? (l := tables_1_2) (i := 169) (by decide +kernel)))))
theorem ltz_43 : (.instanceMethod yX2_clear : Cond) ∈ lw_tbl := (List.mem_append_right _ (List.mem_append_right _ (List.mem_append_left _ (List.mem_of_getElem? (l := tables_1_2) (i := 170) (by decide +kernel)))))
theorem ltz_44 : (.selects RX2 yX2_clear yX2_clear : Cond) ∈ lw_tbl := (List.mem_append_right _ (List.mem_append_right _ (List.mem_append_left _ (List.mem_of_getElem? (l := tables_1_2) (i := 171) (by decide +kernel)))))
theorem ltz_45 : (.initialized RX2 : Cond) ∈ lw_tbl := (List.mem_append_right _ (List.mem_append_left _ (List.mem_of_getElem? (l := tables_1_1) (i := 8) (by decide +kernel))))
theorem ltz_46 : (.code yX0_clear cX0_clear 1 none : Cond) ∈ lw_tbl := (List.mem_append_right _ (List.mem_append_right _ (List.mem_append_left _ (List.mem_of_getElem? (l := tables_1_2) (i := 168) (by decide +kernel)))))
theorem ltz_47 : (.methodLink RX0 44 arraycopyName : Cond) ∈ lw_tbl := (List.mem_append_right _ (List.mem_append_right _ (List.mem_append_right _ (List.mem_append_left _ (List.mem_of_getElem? (l := tables_1_3) (i := 63) (by decide +kernel))))))
theorem ltz_48 : (.fieldLink RX0 25 "GossamerGate$Country" "heavy" "[I" : Cond) ∈ lw_tbl := (List.mem_append_right _ (List.mem_append_left _ (List.mem_of_getElem? (l := tables_1_1) (i := 198) (by decide +kernel))))
theorem ltz_49 : (.methodLink RX0 50 yX2_copyFrom : Cond) ∈ lw_tbl := (List.mem_append_right _ (List.mem_append_right _ (List.mem_append_right _ (List.mem_append_left _ (List.mem_of_getElem? (l := tables_1_3) (i := 66) (by decide +kernel))))))
theorem ltz_50 : (.instanceMethod yX2_copyFrom : Cond) ∈ lw_tbl := (List.mem_append_right _ (List.mem_append_right _ (List.mem_append_right _ (List.mem_append_left _ (List.mem_of_getElem? (l := tables_1_3) (i := 67) (by decide +kernel))))))
theorem ltz_51 : (.selects RX2 yX2_copyFrom yX2_copyFrom : Cond) ∈ lw_tbl := (List.mem_append_right _ (List.mem_append_right _ (List.mem_append_right _ (List.mem_append_left _ (List.mem_of_getElem? (l := tables_1_3) (i := 68) (by decide +kernel))))))
theorem ltz_52 : (.code yX0_copyFrom cX0_copyFrom 2 none : Cond) ∈ lw_tbl := (List.mem_append_right _ (List.mem_append_right _ (List.mem_append_right _ (List.mem_append_left _ (List.mem_of_getElem? (l := tables_1_3) (i := 62) (by decide +kernel))))))
def vs_s_X2_clear : List Cond := .code yX2_clear cX2_clear 2 none :: ([.fieldLink RX2 9 "GossamerGate$Day" "people" "I", .fieldLink RX2 15 "GossamerGate$Day" "hour" "I", .fieldLink RX2 18 "GossamerGate$Day" "gates" "J", .fieldLink RX2 29 "GossamerGate$Day" "place" "[I", .fieldLink RX2 32 "GossamerGate$Day" "tangled" "[I"] ++ (wsX20 ++ []))
theorem gw_s_X2_clear : gGood vs_s_X2_clear := gGood_co (gGood_of (by decide +kernel)) (gGood_app gcX_2 gGood_nil)
theorem il_s_X2_clear : ∀ w ∈ vs_s_X2_clear, w ∈ lw_tbl := List.forall_mem_cons.mpr ⟨ltz_5, List.forall_mem_append.mpr ⟨List.forall_mem_cons.mpr ⟨ltz_0, List.forall_mem_cons.mpr ⟨ltz_1, List.forall_mem_cons.mpr ⟨ltz_2, List.forall_mem_cons.mpr ⟨ltz_3, List.forall_mem_cons.mpr ⟨ltz_4, fun _ h => absurd h List.not_mem_nil⟩⟩⟩⟩⟩, (List.forall_mem_append.mpr ⟨inq_2, fun _ h => absurd h List.not_mem_nil⟩)⟩⟩
theorem j_s_X2_clear_2 : ∀ w ∈ wsX20, w ∈ vs_s_X2_clear := fun _ h => (List.mem_cons_of_mem _ (List.mem_append_right _ (List.mem_append_left _ h)))
def vs_s_X2_copyFrom : List Cond := .code yX2_copyFrom cX2_copyFrom 2 none :: ([.fieldLink RX2 9 "GossamerGate$Day" "people" "I", .fieldLink RX2 15 "GossamerGate$Day" "hour" "I", .fieldLink RX2 18 "GossamerGate$Day" "gates" "J", .fieldLink RX2 22 "GossamerGate$Day" "cell" "[I", .methodLink RX2 35 arraycopyName, .native arraycopyName, .static arraycopyName, .initialized "java/lang/System", .fieldLink RX2 26 "GossamerGate$Day" "thread" "[I", .fieldLink RX2 29 "GossamerGate$Day" "place" "[I", .fieldLink RX2 32 "GossamerGate$Day" "tangled" "[I"] ++ (wsX20 ++ []))
theorem gw_s_X2_copyFrom : gGood vs_s_X2_copyFrom := gGood_co (gGood_of (by decide +kernel)) (gGood_app gcX_2 gGood_nil)
theorem il_s_X2_copyFrom : ∀ w ∈ vs_s_X2_copyFrom, w ∈ lw_tbl := List.forall_mem_cons.mpr ⟨ltz_12, List.forall_mem_append.mpr ⟨List.forall_mem_cons.mpr ⟨ltz_0, List.forall_mem_cons.mpr ⟨ltz_1, List.forall_mem_cons.mpr ⟨ltz_2, List.forall_mem_cons.mpr ⟨ltz_6, List.forall_mem_cons.mpr ⟨ltz_7, List.forall_mem_cons.mpr ⟨ltz_8, List.forall_mem_cons.mpr ⟨ltz_9, List.forall_mem_cons.mpr ⟨ltz_10, List.forall_mem_cons.mpr ⟨ltz_11, List.forall_mem_cons.mpr ⟨ltz_3, List.forall_mem_cons.mpr ⟨ltz_4, fun _ h => absurd h List.not_mem_nil⟩⟩⟩⟩⟩⟩⟩⟩⟩⟩⟩, (List.forall_mem_append.mpr ⟨inq_2, fun _ h => absurd h List.not_mem_nil⟩)⟩⟩
theorem j_s_X2_copyFrom_2 : ∀ w ∈ wsX20, w ∈ vs_s_X2_copyFrom := fun _ h => (List.mem_cons_of_mem _ (List.mem_append_right _ (List.mem_append_left _ h)))
def vs_s_X2_hasGate : List Cond := .code yX2_hasGate cX2_hasGate 2 (some .boolean) :: ([.fieldLink RX2 18 "GossamerGate$Day" "gates" "J"] ++ (wsX20 ++ []))
theorem gw_s_X2_hasGate : gGood vs_s_X2_hasGate := gGood_co (gGood_of (by decide +kernel)) (gGood_app gcX_2 gGood_nil)
theorem il_s_X2_hasGate : ∀ w ∈ vs_s_X2_hasGate, w ∈ lw_tbl := List.forall_mem_cons.mpr ⟨ltz_13, List.forall_mem_append.mpr ⟨List.forall_mem_cons.mpr ⟨ltz_2, fun _ h => absurd h List.not_mem_nil⟩, (List.forall_mem_append.mpr ⟨inq_2, fun _ h => absurd h List.not_mem_nil⟩)⟩⟩
theorem j_s_X2_hasGate_2 : ∀ w ∈ wsX20, w ∈ vs_s_X2_hasGate := fun _ h => (List.mem_cons_of_mem _ (List.mem_append_right _ (List.mem_append_left _ h)))
def vs_s_X2_turnGate : List Cond := .code yX2_turnGate cX2_turnGate 2 none :: ([.fieldLink RX2 18 "GossamerGate$Day" "gates" "J"] ++ (wsX20 ++ []))
theorem gw_s_X2_turnGate : gGood vs_s_X2_turnGate := gGood_co (gGood_of (by decide +kernel)) (gGood_app gcX_2 gGood_nil)
theorem il_s_X2_turnGate : ∀ w ∈ vs_s_X2_turnGate, w ∈ lw_tbl := List.forall_mem_cons.mpr ⟨ltz_14, List.forall_mem_append.mpr ⟨List.forall_mem_cons.mpr ⟨ltz_2, fun _ h => absurd h List.not_mem_nil⟩, (List.forall_mem_append.mpr ⟨inq_2, fun _ h => absurd h List.not_mem_nil⟩)⟩⟩
theorem j_s_X2_turnGate_2 : ∀ w ∈ wsX20, w ∈ vs_s_X2_turnGate := fun _ h => (List.mem_cons_of_mem _ (List.mem_append_right _ (List.mem_append_left _ h)))
def vs_s_X2_bitsIn : List Cond := .code yX2_bitsIn cX2_bitsIn 4 (some .int) :: ([.fieldLink RX2 9 "GossamerGate$Day" "people" "I", .fieldLink RX2 29 "GossamerGate$Day" "place" "[I"] ++ (wsX20 ++ []))
theorem gw_s_X2_bitsIn : gGood vs_s_X2_bitsIn := gGood_co (gGood_of (by decide +kernel)) (gGood_app gcX_2 gGood_nil)
theorem il_s_X2_bitsIn : ∀ w ∈ vs_s_X2_bitsIn, w ∈ lw_tbl := List.forall_mem_cons.mpr ⟨ltz_15, List.forall_mem_append.mpr ⟨List.forall_mem_cons.mpr ⟨ltz_0, List.forall_mem_cons.mpr ⟨ltz_3, fun _ h => absurd h List.not_mem_nil⟩⟩, (List.forall_mem_append.mpr ⟨inq_2, fun _ h => absurd h List.not_mem_nil⟩)⟩⟩
theorem j_s_X2_bitsIn_2 : ∀ w ∈ wsX20, w ∈ vs_s_X2_bitsIn := fun _ h => (List.mem_cons_of_mem _ (List.mem_append_right _ (List.mem_append_left _ h)))
def vs_s_X2_sumOf : List Cond := .code yX2_sumOf cX2_sumOf 4 (some .int) :: ([.fieldLink RX2 9 "GossamerGate$Day" "people" "I"] ++ (wsX20 ++ []))
theorem gw_s_X2_sumOf : gGood vs_s_X2_sumOf := gGood_co (gGood_of (by decide +kernel)) (gGood_app gcX_2 gGood_nil)
theorem il_s_X2_sumOf : ∀ w ∈ vs_s_X2_sumOf, w ∈ lw_tbl := List.forall_mem_cons.mpr ⟨ltz_16, List.forall_mem_append.mpr ⟨List.forall_mem_cons.mpr ⟨ltz_0, fun _ h => absurd h List.not_mem_nil⟩, (List.forall_mem_append.mpr ⟨inq_2, fun _ h => absurd h List.not_mem_nil⟩)⟩⟩
theorem j_s_X2_sumOf_2 : ∀ w ∈ wsX20, w ∈ vs_s_X2_sumOf := fun _ h => (List.mem_cons_of_mem _ (List.mem_append_right _ (List.mem_append_left _ h)))
def vs_s_X5_clear : List Cond := .code yX5_clear cX5_clear 1 none :: ([.fieldLink RX5 25 "GossamerGate$Rule" "clauses" "I", .fieldLink RX5 29 "GossamerGate$Rule" "length" "I"] ++ (wsX50 ++ []))
theorem gw_s_X5_clear : gGood vs_s_X5_clear := gGood_co (gGood_of (by decide +kernel)) (gGood_app gcX_5 gGood_nil)
theorem il_s_X5_clear : ∀ w ∈ vs_s_X5_clear, w ∈ lw_tbl := List.forall_mem_cons.mpr ⟨ltz_19, List.forall_mem_append.mpr ⟨List.forall_mem_cons.mpr ⟨ltz_17, List.forall_mem_cons.mpr ⟨ltz_18, fun _ h => absurd h List.not_mem_nil⟩⟩, (List.forall_mem_append.mpr ⟨inq_5, fun _ h => absurd h List.not_mem_nil⟩)⟩⟩
theorem j_s_X5_clear_5 : ∀ w ∈ wsX50, w ∈ vs_s_X5_clear := fun _ h => (List.mem_cons_of_mem _ (List.mem_append_right _ (List.mem_append_left _ h)))
def vs_s_X5_add : List Cond := .code yX5_add cX5_add 2 none :: ([.fieldLink RX5 29 "GossamerGate$Rule" "length" "I", .fieldLink RX5 9 "GossamerGate$Rule" "steps" "[I"] ++ (wsX50 ++ []))
theorem gw_s_X5_add : gGood vs_s_X5_add := gGood_co (gGood_of (by decide +kernel)) (gGood_app gcX_5 gGood_nil)
theorem il_s_X5_add : ∀ w ∈ vs_s_X5_add, w ∈ lw_tbl := List.forall_mem_cons.mpr ⟨ltz_21, List.forall_mem_append.mpr ⟨List.forall_mem_cons.mpr ⟨ltz_18, List.forall_mem_cons.mpr ⟨ltz_20, fun _ h => absurd h List.not_mem_nil⟩⟩, (List.forall_mem_append.mpr ⟨inq_5, fun _ h => absurd h List.not_mem_nil⟩)⟩⟩
theorem j_s_X5_add_5 : ∀ w ∈ wsX50, w ∈ vs_s_X5_add := fun _ h => (List.mem_cons_of_mem _ (List.mem_append_right _ (List.mem_append_left _ h)))
def vs_s_X5_closeClause : List Cond := .code yX5_closeClause cX5_closeClause 2 none :: ([.fieldLink RX5 25 "GossamerGate$Rule" "clauses" "I", .fieldLink RX5 15 "GossamerGate$Rule" "sumEnds" "[I", .fieldLink RX5 18 "GossamerGate$Rule" "testEnds" "[I", .fieldLink RX5 29 "GossamerGate$Rule" "length" "I"] ++ (wsX50 ++ []))
theorem gw_s_X5_closeClause : gGood vs_s_X5_closeClause := gGood_co (gGood_of (by decide +kernel)) (gGood_app gcX_5 gGood_nil)
theorem il_s_X5_closeClause : ∀ w ∈ vs_s_X5_closeClause, w ∈ lw_tbl := List.forall_mem_cons.mpr ⟨ltz_24, List.forall_mem_append.mpr ⟨List.forall_mem_cons.mpr ⟨ltz_17, List.forall_mem_cons.mpr ⟨ltz_22, List.forall_mem_cons.mpr ⟨ltz_23, List.forall_mem_cons.mpr ⟨ltz_18, fun _ h => absurd h List.not_mem_nil⟩⟩⟩⟩, (List.forall_mem_append.mpr ⟨inq_5, fun _ h => absurd h List.not_mem_nil⟩)⟩⟩
theorem j_s_X5_closeClause_5 : ∀ w ∈ wsX50, w ∈ vs_s_X5_closeClause := fun _ h => (List.mem_cons_of_mem _ (List.mem_append_right _ (List.mem_append_left _ h)))
def vs_s_X5_copyFrom : List Cond := .code yX5_copyFrom cX5_copyFrom 2 none :: ([.fieldLink RX5 25 "GossamerGate$Rule" "clauses" "I", .fieldLink RX5 29 "GossamerGate$Rule" "length" "I", .fieldLink RX5 9 "GossamerGate$Rule" "steps" "[I", .methodLink RX5 32 arraycopyName, .native arraycopyName, .static arraycopyName, .initialized "java/lang/System", .fieldLink RX5 15 "GossamerGate$Rule" "sumEnds" "[I", .fieldLink RX5 18 "GossamerGate$Rule" "testEnds" "[I"] ++ (wsX50 ++ []))
theorem gw_s_X5_copyFrom : gGood vs_s_X5_copyFrom := gGood_co (gGood_of (by decide +kernel)) (gGood_app gcX_5 gGood_nil)
theorem il_s_X5_copyFrom : ∀ w ∈ vs_s_X5_copyFrom, w ∈ lw_tbl := List.forall_mem_cons.mpr ⟨ltz_26, List.forall_mem_append.mpr ⟨List.forall_mem_cons.mpr ⟨ltz_17, List.forall_mem_cons.mpr ⟨ltz_18, List.forall_mem_cons.mpr ⟨ltz_20, List.forall_mem_cons.mpr ⟨ltz_25, List.forall_mem_cons.mpr ⟨ltz_8, List.forall_mem_cons.mpr ⟨ltz_9, List.forall_mem_cons.mpr ⟨ltz_10, List.forall_mem_cons.mpr ⟨ltz_22, List.forall_mem_cons.mpr ⟨ltz_23, fun _ h => absurd h List.not_mem_nil⟩⟩⟩⟩⟩⟩⟩⟩⟩, (List.forall_mem_append.mpr ⟨inq_5, fun _ h => absurd h List.not_mem_nil⟩)⟩⟩
theorem j_s_X5_copyFrom_5 : ∀ w ∈ wsX50, w ∈ vs_s_X5_copyFrom := fun _ h => (List.mem_cons_of_mem _ (List.mem_append_right _ (List.mem_append_left _ h)))
def vs_s_X7_hasRoom : List Cond := .code yX7_hasRoom cX7_hasRoom 1 (some .boolean) :: ([.fieldLink RX7 13 "GossamerGate$Tape" "length" "I"] ++ (wsX70 ++ []))
theorem gw_s_X7_hasRoom : gGood vs_s_X7_hasRoom := gGood_co (gGood_of (by decide +kernel)) (gGood_app gcX_7 gGood_nil)
theorem il_s_X7_hasRoom : ∀ w ∈ vs_s_X7_hasRoom, w ∈ lw_tbl := List.forall_mem_cons.mpr ⟨ltz_28, List.forall_mem_append.mpr ⟨List.forall_mem_cons.mpr ⟨ltz_27, fun _ h => absurd h List.not_mem_nil⟩, (List.forall_mem_append.mpr ⟨inq_7, fun _ h => absurd h List.not_mem_nil⟩)⟩⟩
theorem j_s_X7_hasRoom_7 : ∀ w ∈ wsX70, w ∈ vs_s_X7_hasRoom := fun _ h => (List.mem_cons_of_mem _ (List.mem_append_right _ (List.mem_append_left _ h)))
def vs_s_X7_addFour : List Cond := .code yX7_addFour cX7_addFour 3 none :: ([.fieldLink RX7 13 "GossamerGate$Tape" "length" "I", .fieldLink RX7 9 "GossamerGate$Tape" "bytes" "[I"] ++ (wsX70 ++ []))
theorem gw_s_X7_addFour : gGood vs_s_X7_addFour := gGood_co (gGood_of (by decide +kernel)) (gGood_app gcX_7 gGood_nil)
theorem il_s_X7_addFour : ∀ w ∈ vs_s_X7_addFour, w ∈ lw_tbl := List.forall_mem_cons.mpr ⟨ltz_30, List.forall_mem_append.mpr ⟨List.forall_mem_cons.mpr ⟨ltz_27, List.forall_mem_cons.mpr ⟨ltz_29, fun _ h => absurd h List.not_mem_nil⟩⟩, (List.forall_mem_append.mpr ⟨inq_7, fun _ h => absurd h List.not_mem_nil⟩)⟩⟩
theorem j_s_X7_addFour_7 : ∀ w ∈ wsX70, w ∈ vs_s_X7_addFour := fun _ h => (List.mem_cons_of_mem _ (List.mem_append_right _ (List.mem_append_left _ h)))
def vs_s_X0_cells : List Cond := .code yX0_cells cX0_cells 1 (some .int) :: ([.fieldLink RX0 9 "GossamerGate$Country" "side" "I"] ++ (wsX00 ++ []))
theorem gw_s_X0_cells : gGood vs_s_X0_cells := gGood_co (gGood_of (by decide +kernel)) (gGood_app gcX_0 gGood_nil)
theorem il_s_X0_cells : ∀ w ∈ vs_s_X0_cells, w ∈ lw_tbl := List.forall_mem_cons.mpr ⟨ltz_32, List.forall_mem_append.mpr ⟨List.forall_mem_cons.mpr ⟨ltz_31, fun _ h => absurd h List.not_mem_nil⟩, (List.forall_mem_append.mpr ⟨inq_0, fun _ h => absurd h List.not_mem_nil⟩)⟩⟩
theorem j_s_X0_cells_0 : ∀ w ∈ wsX00, w ∈ vs_s_X0_cells := fun _ h => (List.mem_cons_of_mem _ (List.mem_append_right _ (List.mem_append_left _ h)))
def vs_s_X0_round : List Cond := .code yX0_round cX0_round 1 (some .int) :: ([.fieldLink RX0 15 "GossamerGate$Country" "winds" "I", .methodLink RX0 35 Lib.Math.max.name, .static Lib.Math.max.name, .initialized "java/lang/Math", .code Lib.Math.max.name Lib.Math.max.code 2 (some .int)] ++ (wsX00 ++ []))
theorem gw_s_X0_round : gGood vs_s_X0_round := gGood_co (gGood_of (by decide +kernel)) (gGood_app gcX_0 gGood_nil)
theorem il_s_X0_round : ∀ w ∈ vs_s_X0_round, w ∈ lw_tbl := List.forall_mem_cons.mpr ⟨ltz_38, List.forall_mem_append.mpr ⟨List.forall_mem_cons.mpr ⟨ltz_33, List.forall_mem_cons.mpr ⟨ltz_34, List.forall_mem_cons.mpr ⟨ltz_35, List.forall_mem_cons.mpr ⟨ltz_36, List.forall_mem_cons.mpr ⟨ltz_37, fun _ h => absurd h List.not_mem_nil⟩⟩⟩⟩⟩, (List.forall_mem_append.mpr ⟨inq_0, fun _ h => absurd h List.not_mem_nil⟩)⟩⟩
theorem j_s_X0_round_0 : ∀ w ∈ wsX00, w ∈ vs_s_X0_round := fun _ h => (List.mem_cons_of_mem _ (List.mem_append_right _ (List.mem_append_left _ h)))
def vs_s_X0_clear : List Cond := .code yX0_clear cX0_clear 1 none :: ([.fieldLink RX0 9 "GossamerGate$Country" "side" "I", .fieldLink RX0 15 "GossamerGate$Country" "winds" "I", .fieldLink RX0 18 "GossamerGate$Country" "way" "[I", .fieldLink RX0 22 "GossamerGate$Country" "strength" "[I", .fieldLink RX0 31 "GossamerGate$Country" "begin" "LGossamerGate$Day;", .methodLink RX0 41 yX2_clear, .instanceMethod yX2_clear, .selects RX2 yX2_clear yX2_clear, .initialized RX2] ++ (wsX00 ++ (vs_s_X2_clear ++ [])))
theorem gw_s_X0_clear : gGood vs_s_X0_clear := gGood_co (gGood_of (by decide +kernel)) (gGood_app gcX_0 (gGood_app gw_s_X2_clear gGood_nil))
theorem il_s_X0_clear : ∀ w ∈ vs_s_X0_clear, w ∈ lw_tbl := List.forall_mem_cons.mpr ⟨ltz_46, List.forall_mem_append.mpr ⟨List.forall_mem_cons.mpr ⟨ltz_31, List.forall_mem_cons.mpr ⟨ltz_33, List.forall_mem_cons.mpr ⟨ltz_39, List.forall_mem_cons.mpr ⟨ltz_40, List.forall_mem_cons.mpr ⟨ltz_41, List.forall_mem_cons.mpr ⟨ltz_42, List.forall_mem_cons.mpr ⟨ltz_43, List.forall_mem_cons.mpr ⟨ltz_44, List.forall_mem_cons.mpr ⟨ltz_45, fun _ h => absurd h List.not_mem_nil⟩⟩⟩⟩⟩⟩⟩⟩⟩, (List.forall_mem_append.mpr ⟨inq_0, (List.forall_mem_append.mpr ⟨il_s_X2_clear, fun _ h => absurd h List.not_mem_nil⟩)⟩)⟩⟩
theorem j_s_X0_clear_0 : ∀ w ∈ wsX00, w ∈ vs_s_X0_clear := fun _ h => (List.mem_cons_of_mem _ (List.mem_append_right _ (List.mem_append_left _ h)))
theorem g_s_X0_clear_41_s_X2_clear : GoodIn vs_s_X0_clear (wsV RX0 41 RX2 yX2_clear vs_s_X2_clear) := gz_gi (List.forall_mem_append.mpr ⟨List.forall_mem_cons.mpr ⟨(List.mem_cons_of_mem _ (List.mem_append_left _ (List.mem_of_getElem? (i := 5) rfl))), List.forall_mem_cons.mpr ⟨(List.mem_cons_of_mem _ (List.mem_append_left _ (List.mem_of_getElem? (i := 6) rfl))), List.forall_mem_cons.mpr ⟨(List.mem_cons_of_mem _ (List.mem_append_left _ (List.mem_of_getElem? (i := 7) rfl))), List.forall_mem_cons.mpr ⟨(List.mem_cons_of_mem _ (List.mem_append_left _ (List.mem_of_getElem? (i := 8) rfl))), fun _ h => absurd h List.not_mem_nil⟩⟩⟩⟩, (fun w h => (List.mem_cons_of_mem _ (List.mem_append_right _ (List.mem_append_right _ (List.mem_append_left _ h)))))⟩) (gGood_app (gGood_of (by decide +kernel)) gw_s_X2_clear)
def vs_s_X0_copyFrom : List Cond := .code yX0_copyFrom cX0_copyFrom 2 none :: ([.fieldLink RX0 9 "GossamerGate$Country" "side" "I", .fieldLink RX0 15 "GossamerGate$Country" "winds" "I", .fieldLink RX0 18 "GossamerGate$Country" "way" "[I", .methodLink RX0 44 arraycopyName, .native arraycopyName, .static arraycopyName, .initialized "java/lang/System", .fieldLink RX0 22 "GossamerGate$Country" "strength" "[I", .fieldLink RX0 25 "GossamerGate$Country" "heavy" "[I", .fieldLink RX0 31 "GossamerGate$Country" "begin" "LGossamerGate$Day;", .methodLink RX0 50 yX2_copyFrom, .instanceMethod yX2_copyFrom, .selects RX2 yX2_copyFrom yX2_copyFrom, .initialized RX2] ++ (wsX00 ++ (vs_s_X2_copyFrom ++ [])))
theorem gw_s_X0_copyFrom : gGood vs_s_X0_copyFrom := gGood_co (gGood_of (by decide +kernel)) (gGood_app gcX_0 (gGood_app gw_s_X2_copyFrom gGood_nil))
theorem il_s_X0_copyFrom : ∀ w ∈ vs_s_X0_copyFrom, w ∈ lw_tbl := List.forall_mem_cons.mpr ⟨ltz_52, List.forall_mem_append.mpr ⟨List.forall_mem_cons.mpr ⟨ltz_31, List.forall_mem_cons.mpr ⟨ltz_33, List.forall_mem_cons.mpr ⟨ltz_39, List.forall_mem_cons.mpr ⟨ltz_47, List.forall_mem_cons.mpr ⟨ltz_8, List.forall_mem_cons.mpr ⟨ltz_9, List.forall_mem_cons.mpr ⟨ltz_10, List.forall_mem_cons.mpr ⟨ltz_40, List.forall_mem_cons.mpr ⟨ltz_48, List.forall_mem_cons.mpr ⟨ltz_41, List.forall_mem_cons.mpr ⟨ltz_49, List.forall_mem_cons.mpr ⟨ltz_50, List.forall_mem_cons.mpr ⟨ltz_51, List.forall_mem_cons.mpr ⟨ltz_45, fun _ h => absurd h List.not_mem_nil⟩⟩⟩⟩⟩⟩⟩⟩⟩⟩⟩⟩⟩⟩, (List.forall_mem_append.mpr ⟨inq_0, (List.forall_mem_append.mpr ⟨il_s_X2_copyFrom, fun _ h => absurd h List.not_mem_nil⟩)⟩)⟩⟩
theorem j_s_X0_copyFrom_0 : ∀ w ∈ wsX00, w ∈ vs_s_X0_copyFrom := fun _ h => (List.mem_cons_of_mem _ (List.mem_append_right _ (List.mem_append_left _ h)))
theorem g_s_X0_copyFrom_50_s_X2_copyFrom : GoodIn vs_s_X0_copyFrom (wsV RX0 50 RX2 yX2_copyFrom vs_s_X2_copyFrom) := gz_gi (List.forall_mem_append.mpr ⟨List.forall_mem_cons.mpr ⟨(List.mem_cons_of_mem _ (List.mem_append_left _ (List.mem_of_getElem? (i := 10) rfl))), List.forall_mem_cons.mpr ⟨(List.mem_cons_of_mem _ (List.mem_append_left _ (List.mem_of_getElem? (i := 11) rfl))), List.forall_mem_cons.mpr ⟨(List.mem_cons_of_mem _ (List.mem_append_left _ (List.mem_of_getElem? (i := 12) rfl))), List.forall_mem_cons.mpr ⟨(List.mem_cons_of_mem _ (List.mem_append_left _ (List.mem_of_getElem? (i := 13) rfl))), fun _ h => absurd h List.not_mem_nil⟩⟩⟩⟩, (fun w h => (List.mem_cons_of_mem _ (List.mem_append_right _ (List.mem_append_right _ (List.mem_append_left _ h)))))⟩) (gGood_app (gGood_of (by decide +kernel)) gw_s_X2_copyFrom)
