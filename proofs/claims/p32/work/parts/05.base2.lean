/-! Intervals: what is known of a number -/
def gIv (a b : Int) (x : Int32) : Prop := a ≤ x.toInt ∧ x.toInt ≤ b
theorem gIv_of {a b : Int} {x : Int32} (h : a ≤ x.toInt ∧ x.toInt ≤ b) : gIv a b x := h
theorem gIv_any (x : Int32) : gIv (-2147483648) 2147483647 x := ⟨by have := Int32.le_toInt x; omega, by have := Int32.toInt_lt x; omega⟩
theorem gIv_w {a b a' b' : Int} {x : Int32} (h : gIv a b x) (h1 : a' ≤ a) (h2 : b ≤ b') : gIv a' b' x := ⟨Int.le_trans h1 h.1, Int.le_trans h.2 h2⟩
theorem gIv_eq {a b : Int} {x y : Int32} (h : gIv a b x) (e : y = x) : gIv a b y := e ▸ h
theorem gIv_add {a b c d e f : Int} {x y : Int32} (hx : gIv a b x) (hy : gIv c d y) (h1 : e ≤ a + c ∧ b + d ≤ f) (h2 : -2147483648 ≤ e ∧ f ≤ 2147483647) : gIv e f (x + y) := by
  obtain ⟨p1, p2⟩ := hx
  obtain ⟨q1, q2⟩ := hy
  have h : (x + y).toInt = x.toInt + y.toInt := Jvm.Kit.i32_add (by omega) (by omega)
  exact ⟨by rw [h]; omega, by rw [h]; omega⟩
theorem gIv_sub {a b c d e f : Int} {x y : Int32} (hx : gIv a b x) (hy : gIv c d y) (h1 : e ≤ a - d ∧ b - c ≤ f) (h2 : -2147483648 ≤ e ∧ f ≤ 2147483647) : gIv e f (x - y) := by
  obtain ⟨p1, p2⟩ := hx
  obtain ⟨q1, q2⟩ := hy
  have h : (x - y).toInt = x.toInt - y.toInt := Jvm.Kit.i32_sub (by omega) (by omega)
  exact ⟨by rw [h]; omega, by rw [h]; omega⟩
/-- both factors not below 0 -/
theorem gIv_mul {a b c d e f : Int} {x y : Int32} (hx : gIv a b x) (hy : gIv c d y) (h0 : 0 ≤ a ∧ 0 ≤ c) (h1 : e ≤ a * c ∧ b * d ≤ f) (h2 : -2147483648 ≤ e ∧ f ≤ 2147483647) : gIv e f (x * y) := by
  obtain ⟨p1, p2⟩ := hx
  obtain ⟨q1, q2⟩ := hy
  have m1 : a * c ≤ x.toInt * y.toInt := Int.mul_le_mul p1 q1 h0.2 (by omega)
  have m2 : x.toInt * y.toInt ≤ b * d := Int.mul_le_mul p2 q2 (by omega) (by omega)
  have h : (x * y).toInt = x.toInt * y.toInt := Jvm.Kit.i32_mul (by omega) (by omega)
  exact ⟨by rw [h]; omega, by rw [h]; omega⟩
theorem gIv_in {m : Int} {n : Nat} {x : Int32} (h : gIv 0 m x) (hm : m < n) : vp_in x n := vp_in_iff.mpr ⟨h.1, Int.lt_of_le_of_lt h.2 hm⟩
/-- branches -/
theorem gIv_lt_l {a b c d e : Int} {x y : Int32} (hx : gIv a b x) (hy : gIv c d y) (h : x < y) (he : d - 1 ≤ e) : gIv a e x := ⟨hx.1, by have := gz_lt.mp h; have := hy.2; omega⟩
theorem gIv_lt_r {a b c d e : Int} {x y : Int32} (hx : gIv a b x) (hy : gIv c d y) (h : x < y) (he : e ≤ a + 1) : gIv e d y := ⟨by have := gz_lt.mp h; have := hx.1; omega, hy.2⟩
theorem gIv_le_l {a b c d e : Int} {x y : Int32} (hx : gIv a b x) (hy : gIv c d y) (h : x ≤ y) (he : d ≤ e) : gIv a e x := ⟨hx.1, by have := gz_le.mp h; have := hy.2; omega⟩
theorem gIv_le_r {a b c d e : Int} {x y : Int32} (hx : gIv a b x) (hy : gIv c d y) (h : x ≤ y) (he : e ≤ a) : gIv e d y := ⟨by have := gz_le.mp h; have := hx.1; omega, hy.2⟩
theorem gIv_eq_l {a b c d : Int} {x y : Int32} (hy : gIv c d y) (h : x = y) : gIv c d x := h ▸ hy
/-- rows of numbers of one kind -/
def gAll (a b : Int) (n : Nat) (f : Nat → Int32) : Prop := ∀ j, j < n → gIv a b (f j)
theorem gAll_at {a b : Int} {n : Nat} {f : Nat → Int32} (h : gAll a b n f) {x : Int32} (hx : vp_in x n) : gIv a b (f x.toNatClampNeg) := h _ (by
  rcases Nat.lt_or_ge x.toNatClampNeg n with q | q
  · exact q
  · exact absurd (Or.inr q) hx)
theorem gAll_upd {a b : Int} {n k : Nat} {f : Nat → Int32} {x : Int32} (h : gAll a b n f) (hx : gIv a b x) : gAll a b n (upd f k x) := fun j hj => by
  by_cases e : j = k
  · rw [e, pk_us]; exact hx
  · rw [pk_un e]; exact h j hj
theorem gAll_const {a b : Int} {n : Nat} {x : Int32} (hx : gIv a b x) : gAll a b n (fun _ => x) := fun _ _ => hx
theorem gAll_w {a b a' b' : Int} {n : Nat} {f : Nat → Int32} (h : gAll a b n f) (h1 : a' ≤ a) (h2 : b ≤ b') : gAll a' b' n f := fun j hj => gIv_w (h j hj) h1 h2
theorem gAll_cpy {a b : Int} {n m sp dp k : Nat} {f g : Nat → Int32} (hf : gAll a b n f) (hg : gAll a b m g) (h : sp + k ≤ n) : gAll a b m (va_cpy f g sp dp k) := fun j hj => by
  by_cases e : dp ≤ j ∧ j < dp + k
  · rw [pk_cpy_in e.1 e.2]; exact hf _ (by omega)
  · rw [pk_cpy_out (by omega)]; exact hg j hj
abbrev gS : Type := (Nat → Int32) × (Nat → Nat → Int32) × (Nat → Int64) × (Nat → Nat → Int64) × (Nat → Option Nat)
theorem gI_add {a b n : Int} {x y k : Int32} (e : y = x + k) (hx : gIv a b x) (hk : k.toInt = n) (h : -2147483648 ≤ a + n ∧ b + n ≤ 2147483647) : y.toInt = x.toInt + n := by
  obtain ⟨p1, p2⟩ := hx
  rw [e, Jvm.Kit.i32_add (by omega) (by omega), hk]
theorem gI_inc {a b : Int} {x y : Int32} (e : y = x + 1) (hx : gIv a b x) (h : -2147483648 ≤ a + 1 ∧ b + 1 ≤ 2147483647) : y.toInt = x.toInt + 1 := gI_add e hx (by decide) h
theorem gI_dec {a b : Int} {x y : Int32} (e : y = x - 1) (hx : gIv a b x) (h : -2147483648 ≤ a - 1 ∧ b - 1 ≤ 2147483647) : y.toInt = x.toInt + (-1) := by
  obtain ⟨p1, p2⟩ := hx
  have h1 : (1 : Int32).toInt = 1 := by decide
  rw [e, Jvm.Kit.i32_sub (by omega) (by omega), h1]
  omega
/-- a counter that grows, or falls, has an end -/
theorem gM_up {N d : Int} {x y : Int32} {n : Nat} (h : y.toInt = x.toInt + d) (hy : y.toInt ≤ N) (hm : (N - x.toInt).toNat < n + 1) (hd : 0 < d) : (N - y.toInt).toNat < n := by omega
theorem gM_down {N d : Int} {x y : Int32} {n : Nat} (h : y.toInt = x.toInt + d) (hy : N ≤ y.toInt) (hm : (x.toInt - N).toNat < n + 1) (hd : d < 0) : (y.toInt - N).toNat < n := by omega
theorem gz_nlt {x y : Int32} (h : ¬ x < y) : y ≤ x := Int32.not_lt.mp h
theorem gz_nle {x y : Int32} (h : ¬ x ≤ y) : y < x := Int32.not_le.mp h
theorem gIv_nlt {a b c d : Int} {x y : Int32} (hx : gIv a b x) (hy : gIv c d y) (h : d ≤ a) : ¬ x < y := fun q => by have := gz_lt.mp q; have := hx.1; have := hy.2; omega
theorem gIv_nle {a b c d : Int} {x y : Int32} (hx : gIv a b x) (hy : gIv c d y) (h : d < a) : ¬ x ≤ y := fun q => by have := gz_le.mp q; have := hx.1; have := hy.2; omega
theorem gIv_neq {a b c d : Int} {x y : Int32} (hx : gIv a b x) (hy : gIv c d y) (h : b < c ∨ d < a) : ¬ x = y := fun q => by have := gz_eq.mp q; have := hx.1; have := hx.2; have := hy.1; have := hy.2; omega
theorem gIv_eqc {a b c d e f : Int} {x y : Int32} (hx : gIv a b x) (hy : gIv c d y) (h : x = y) (he : (e ≤ a ∨ e ≤ c) ∧ (b ≤ f ∨ d ≤ f)) : gIv e f x := by
  have := gz_eq.mp h
  have := hx.1
  have := hx.2
  have := hy.1
  have := hy.2
  exact ⟨by omega, by omega⟩
theorem gIv_yeq {a : Int} {x y : Int32} (hx : gIv a a x) (hy : gIv a a y) : x = y := gz_eq.mpr (by have := hx.1; have := hx.2; have := hy.1; have := hy.2; omega)
theorem gIv_ne_lo {a b c e : Int} {x y : Int32} (hx : gIv a b x) (hy : gIv c c y) (h : ¬ x = y) (he : a = c ∧ e = a + 1) : gIv e b x := by
  have h2 : ¬ x.toInt = y.toInt := fun q => h (gz_eq.mpr q)
  have := hx.1
  have := hx.2
  have := hy.1
  have := hy.2
  exact ⟨by omega, by omega⟩
theorem gIv_ne_hi {a b c e : Int} {x y : Int32} (hx : gIv a b x) (hy : gIv c c y) (h : ¬ x = y) (he : b = c ∧ e = b - 1) : gIv a e x := by
  have h2 : ¬ x.toInt = y.toInt := fun q => h (gz_eq.mpr q)
  have := hx.1
  have := hx.2
  have := hy.1
  have := hy.2
  exact ⟨by omega, by omega⟩
theorem gIv_nz {a b : Int} {x : Int32} (hx : gIv a b x) (h : 0 < a ∨ b < 0) : ¬ x = 0 := fun q => by
  have h0 : x.toInt = 0 := by rw [q]; decide
  have := hx.1
  have := hx.2
  omega
theorem gIv_neg {a b e f : Int} {x : Int32} (hx : gIv a b x) (h : -2147483648 < a ∧ e ≤ -b ∧ -a ≤ f) : gIv e f (-x) := by
  have := hx.1
  have := hx.2
  have h1 : (-x).toInt = -x.toInt := Jvm.Kit.i32_neg (by omega)
  exact ⟨by rw [h1]; omega, by rw [h1]; omega⟩
theorem gIv_cmp (x y : Int64) : gIv (-1) 1 (lg_cmp x y) := by
  unfold lg_cmp
  split
  · exact gIv_of (by decide)
  · split <;> exact gIv_of (by decide)
theorem gIv_max {a b c d e f : Int} {x y : Int32} (hx : gIv a b x) (hy : gIv c d y) (h : (e ≤ a ∨ e ≤ c) ∧ b ≤ f ∧ d ≤ f) : gIv e f (if x < y then y else x) := by
  have := hx.1
  have := hx.2
  have := hy.1
  have := hy.2
  split
  · have := gz_lt.mp (by assumption : x < y); exact ⟨by omega, by omega⟩
  · have q := gz_le.mp (Int32.not_lt.mp (by assumption : ¬ x < y)); exact ⟨by omega, by omega⟩
theorem gIv_z {x : Int32} (h : gIv 0 1 x) : narrow .boolean (.int x) = .int x := by
  have h0 := h.1
  have h1 := h.2
  rcases (show x.toInt = 0 ∨ x.toInt = 1 by omega) with q | q
  · rw [Int32.toInt_inj.mp (q.trans (by decide : (0 : Int) = (0 : Int32).toInt))]; decide
  · rw [Int32.toInt_inj.mp (q.trans (by decide : (1 : Int) = (1 : Int32).toInt))]; decide
theorem gIv_min {a b c d e f : Int} {x y : Int32} (hx : gIv a b x) (hy : gIv c d y) (h : e ≤ a ∧ e ≤ c ∧ (b ≤ f ∨ d ≤ f)) : gIv e f (if y < x then y else x) := by
  have := hx.1
  have := hx.2
  have := hy.1
  have := hy.2
  split
  · have := gz_lt.mp (by assumption : y < x); exact ⟨by omega, by omega⟩
  · have q := gz_le.mp (Int32.not_lt.mp (by assumption : ¬ y < x)); exact ⟨by omega, by omega⟩
theorem gIv_div {a b c d f : Int} {x y : Int32} (hx : gIv a b x) (hy : gIv c d y) (h0 : 0 ≤ a ∧ 0 < c) (h1 : b / c ≤ f) : gIv 0 f (x / y) := by
  obtain ⟨p1, p2⟩ := hx
  obtain ⟨q1, q2⟩ := hy
  have h : (x / y).toInt = x.toInt.tdiv y.toInt := Jvm.Kit.i32_div (by omega)
  rw [Int.tdiv_eq_ediv_of_nonneg (by omega)] at h
  have e1 : x.toInt / y.toInt * y.toInt ≤ x.toInt := Int.ediv_mul_le _ (by omega)
  have e0 : 0 ≤ x.toInt / y.toInt := Int.ediv_nonneg (by omega) (by omega)
  have e2 : x.toInt / y.toInt * c ≤ x.toInt / y.toInt * y.toInt := Int.mul_le_mul_of_nonneg_left q1 e0
  have e3 : x.toInt / y.toInt ≤ b / c := (Int.le_ediv_iff_mul_le h0.2).mpr (Int.le_trans e2 (Int.le_trans e1 p2))
  exact ⟨by rw [h]; exact e0, by rw [h]; exact Int.le_trans e3 h1⟩
/-- what irem leaves: x - x / y * y -/
theorem gIv_rem {a b c d f : Int} {x y : Int32} (hx : gIv a b x) (hy : gIv c d y) (h0 : 0 ≤ a ∧ 0 < c) (h1 : b ≤ f ∨ d - 1 ≤ f) : gIv 0 f (x - x / y * y) := by
  obtain ⟨p1, p2⟩ := hx
  obtain ⟨q1, q2⟩ := hy
  have hb := Int32.toInt_lt x
  have h : (x / y).toInt = x.toInt.tdiv y.toInt := Jvm.Kit.i32_div (by omega)
  rw [Int.tdiv_eq_ediv_of_nonneg (by omega)] at h
  have e1 : x.toInt / y.toInt * y.toInt ≤ x.toInt := Int.ediv_mul_le _ (by omega)
  have e0 : 0 ≤ x.toInt / y.toInt := Int.ediv_nonneg (by omega) (by omega)
  have e4 : 0 ≤ x.toInt / y.toInt * y.toInt := Int.mul_nonneg e0 (by omega)
  have hm : (x / y * y).toInt = x.toInt / y.toInt * y.toInt := by rw [Jvm.Kit.i32_mul (by rw [h]; omega) (by rw [h]; omega), h]
  have hs : (x - x / y * y).toInt = x.toInt - x.toInt / y.toInt * y.toInt := by rw [Jvm.Kit.i32_sub (by rw [hm]; omega) (by rw [hm]; omega), hm]
  have hd := Int.emod_add_mul_ediv x.toInt y.toInt
  have hl := Int.emod_lt_of_pos x.toInt (show 0 < y.toInt by omega)
  have hn := Int.emod_nonneg x.toInt (show y.toInt ≠ 0 by omega)
  rw [Int.mul_comm] at hd
  exact ⟨by rw [hs]; omega, by rw [hs]; omega⟩
theorem gIv_and (x : Int32) {m : Int32} {f : Int} (k : Nat) (hm : m.toBitVec.toNat = 2 ^ k - 1) (hk : k ≤ 30) (hf : (2 : Int) ^ k - 1 ≤ f) : gIv 0 f (x &&& m) := by
  have h := vp_in_iff.mp (pk_andIn x k hm hk)
  have h2 : ((2 ^ k : Nat) : Int) = (2 : Int) ^ k := by simp
  exact ⟨h.1, by have := h.2; omega⟩
theorem gIv_i2b (x : Int32) : gIv (-128) 127 x.toInt8.toInt32 := by
  have h1 := Int8.le_toInt x.toInt8
  have h2 := Int8.toInt_lt x.toInt8
  have h : x.toInt8.toInt32.toInt = x.toInt8.toInt := Int8.toInt_toInt32 x.toInt8
  exact ⟨by rw [h]; omega, by rw [h]; omega⟩
theorem gIv_no {a b c d : Int} {x : Int32} (h : gIv a b x) (h2 : b < c ∨ d < a) : ¬ gIv c d x := fun q => by
  have := h.1
  have := h.2
  have := q.1
  have := q.2
  omega
theorem gIv_int {a b c d e f : Int} {x : Int32} (h : gIv a b x) (h2 : gIv c d x) (h3 : (e ≤ a ∨ e ≤ c) ∧ (b ≤ f ∨ d ≤ f)) : gIv e f x := by
  have := h.1
  have := h.2
  have := h2.1
  have := h2.2
  exact ⟨by omega, by omega⟩
theorem gI_sum {a b c d : Int} {x y z : Int32} (e : z = x + y) (hx : gIv a b x) (hy : gIv c d y) (h : -2147483648 ≤ a + c ∧ b + d ≤ 2147483647) : z.toInt = x.toInt + y.toInt := by
  obtain ⟨p1, p2⟩ := hx
  obtain ⟨q1, q2⟩ := hy
  rw [e, Jvm.Kit.i32_add (by omega) (by omega)]
theorem gI_dif {a b c d : Int} {x y z : Int32} (e : z = x - y) (hx : gIv a b x) (hy : gIv c d y) (h : -2147483648 ≤ a - d ∧ b - c ≤ 2147483647) : z.toInt = x.toInt - y.toInt := by
  obtain ⟨p1, p2⟩ := hx
  obtain ⟨q1, q2⟩ := hy
  rw [e, Jvm.Kit.i32_sub (by omega) (by omega)]
theorem gz_cmp0 {x : Int32} {a b : Int64} (e : x = lg_cmp a b) (h : ¬ x = 0) : ¬ a = b := fun q => h (by rw [e, q]; unfold lg_cmp; simp)
/-- null, or one of these -/
def gRu (L : List Nat) (r : Option Nat) : Prop := r = none ∨ ∃ (i : Nat) (a : Nat), L[i]? = some a ∧ r = some a
theorem gRu_s {L : List Nat} {a i : Nat} (h : L[i]? = some a) : gRu L (some a) := Or.inr ⟨i, a, h, rfl⟩
theorem gRu_6 {a b c d e f : Nat} {r : Option Nat} (h : gRu [a, b, c, d, e, f] r) : r = none ∨ r = some a ∨ r = some b ∨ r = some c ∨ r = some d ∨ r = some e ∨ r = some f := by
  rcases h with h | ⟨i, q, hi, h⟩
  · exact Or.inl h
  · match i, hi with
    | 0, hi => cases hi; exact Or.inr (Or.inl h)
    | 1, hi => cases hi; exact Or.inr (Or.inr (Or.inl h))
    | 2, hi => cases hi; exact Or.inr (Or.inr (Or.inr (Or.inl h)))
    | 3, hi => cases hi; exact Or.inr (Or.inr (Or.inr (Or.inr (Or.inl h))))
    | 4, hi => cases hi; exact Or.inr (Or.inr (Or.inr (Or.inr (Or.inr (Or.inl h)))))
    | 5, hi => cases hi; exact Or.inr (Or.inr (Or.inr (Or.inr (Or.inr (Or.inr h)))))
theorem gI_back {a b c d e f n : Int} {x y : Int32} (i : x.toInt = y.toInt + n) (h : gIv a b x) (h2 : gIv c d y) (h3 : (e ≤ a - n ∨ e ≤ c) ∧ (b - n ≤ f ∨ d ≤ f)) : gIv e f y := by
  have := h.1
  have := h.2
  have := h2.1
  have := h2.2
  exact ⟨by omega, by omega⟩
/-- how long a text is -/
def gLen (i : Nat) : Int32 := Int32.ofNat (gz_len.getD i 0)
theorem gLen_iv {i : Nat} (h : i < 7) : gIv 0 67 (gLen i) := by
  match i, h with
  | 0, _ => exact gIv_of (by decide)
  | 1, _ => exact gIv_of (by decide)
  | 2, _ => exact gIv_of (by decide)
  | 3, _ => exact gIv_of (by decide)
  | 4, _ => exact gIv_of (by decide)
  | 5, _ => exact gIv_of (by decide)
  | 6, _ => exact gIv_of (by decide)
  | n + 7, h => exact absurd h (by omega)
theorem gLen_nat {i : Nat} (h : i < 7) : (gLen i).toInt = ((gz_len.getD i 0 : Nat) : Int) := by
  match i, h with
  | 0, _ => decide
  | 1, _ => decide
  | 2, _ => decide
  | 3, _ => decide
  | 4, _ => decide
  | 5, _ => decide
  | 6, _ => decide
  | n + 7, h => exact absurd h (by omega)
theorem gLen_shr {i : Nat} (h : i < 7) : gLen i >>> ((0 : Int32) &&& 31) = gLen i := by
  match i, h with
  | 0, _ => decide
  | 1, _ => decide
  | 2, _ => decide
  | 3, _ => decide
  | 4, _ => decide
  | 5, _ => decide
  | 6, _ => decide
  | n + 7, h => exact absurd h (by omega)
theorem gLen_in {i : Nat} (h : i < 7) {x : Int32} (hx : gIv 0 70 x) (hl : x < gLen i) : vp_in x (gz_len.getD i 0) := vp_in_iff.mpr ⟨hx.1, by have := gz_lt.mp hl; have := gLen_nat h; omega⟩
theorem gI_256 : ∀ j : Fin 256, ((nI j.1).toUInt32 % 65536).toInt32 = nI j.1 ∧ narrow .char (.int (nI j.1)) = .int (nI j.1) := by decide +kernel
theorem gI_256n {x : Int32} (h : gIv 0 255 x) : ∃ j : Fin 256, x = nI j.1 := by
  obtain ⟨j, hj, e⟩ := vp_in_of (vp_in_iff.mpr ⟨h.1, by have := h.2; omega⟩ : vp_in x 256) (by decide)
  exact ⟨⟨j, hj⟩, e⟩
theorem gIv_i2c {x : Int32} (h : gIv 0 255 x) : gIv 0 255 (x.toUInt32 % 65536).toInt32 := by
  obtain ⟨j, e⟩ := gI_256n h
  rw [e] at h ⊢
  rw [(gI_256 j).1]
  exact h
theorem gIv_ch {x : Int32} (h : gIv 0 255 x) : narrow .char (.int x) = .int x := by
  obtain ⟨j, e⟩ := gI_256n h
  rw [e]
  exact (gI_256 j).2
def gU {α : Type} (f : Nat → α) (k : Nat) (x : α) : Nat → α := fun j => cond (Nat.beq j k) x (f j)
theorem gU_s {α : Type} {f : Nat → α} {k : Nat} {x : α} : gU f k x k = x := by simp [gU]
theorem gU_n {α : Type} {f : Nat → α} {k j : Nat} {x : α} (h : j ≠ k) : gU f k x j = f j := by
  have : Nat.beq j k = false := by
    cases e : Nat.beq j k with
    | false => rfl
    | true => exact absurd (Nat.eq_of_beq_eq_true e) h
  simp [gU, this]
/-- the kept days: 20 numbers of people, 20 hours -/
def gHis (f : Nat → Int32) : Prop := (∀ i, i < 20 → gIv 0 6 (f i)) ∧ ∀ i, i < 20 → gIv 0 999 (f (20 + i))
theorem gHis_p {f : Nat → Int32} {i : Nat} {x : Int32} (h : gHis f) (hx : gIv 0 6 x) (hi : i < 20) : gHis (gU f i x) := by
  refine ⟨fun j hj => ?_, fun j hj => ?_⟩
  · by_cases e : j = i
    · rw [e, gU_s]; exact hx
    · rw [gU_n e]; exact h.1 j hj
  · rw [gU_n (by omega)]; exact h.2 j hj
theorem gHis_h {f : Nat → Int32} {i : Nat} {x : Int32} (h : gHis f) (hx : gIv 0 999 x) (hi : i < 20) : gHis (gU f (20 + i) x) := by
  refine ⟨fun j hj => ?_, fun j hj => ?_⟩
  · rw [gU_n (by omega)]; exact h.1 j hj
  · by_cases e : j = i
    · rw [e, gU_s]; exact hx
    · rw [gU_n (by omega)]; exact h.2 j hj
theorem gHis_x {f : Nat → Int32} {k : Nat} {x : Int32} (h : gHis f) (hk : 40 ≤ k) : gHis (gU f k x) := ⟨fun j hj => by rw [gU_n (by omega)]; exact h.1 j hj, fun j hj => by rw [gU_n (by omega)]; exact h.2 j hj⟩
