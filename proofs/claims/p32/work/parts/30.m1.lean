theorem lrw_0 : (.code yX11_in cX11_in 6 (some .boolean) : Cond) ∈ lw_tbl := (List.mem_append_right _ (List.mem_append_right _ (List.mem_append_right _ (List.mem_append_right _ (List.mem_append_right _ (List.mem_append_right _ (List.mem_append_left _ (List.mem_of_getElem? (l := tables_1_6) (i := 22) (by decide +kernel)))))))))
theorem lrw_1 : (.code yX11_isOf cX11_isOf 2 (some .boolean) : Cond) ∈ lw_tbl := (List.mem_append_right _ (List.mem_append_right _ (List.mem_append_right _ (List.mem_append_right _ (List.mem_append_right _ (List.mem_append_right _ (List.mem_append_left _ (List.mem_of_getElem? (l := tables_1_6) (i := 212) (by decide +kernel)))))))))
theorem lrw_2 : (.code yX11_bits cX11_bits 3 (some .int) : Cond) ∈ lw_tbl := (List.mem_append_right _ (List.mem_append_right _ (List.mem_append_right _ (List.mem_append_right _ (List.mem_append_right _ (List.mem_append_right _ (List.mem_append_left _ (List.mem_of_getElem? (l := tables_1_6) (i := 235) (by decide +kernel)))))))))
def vs_r_in : List Cond := .code yX11_in cX11_in 6 (some .boolean) :: ([] ++ [])
theorem gw_r_in : gGood vs_r_in := gGood_co (gGood_of (by decide +kernel)) gGood_nil
theorem il_r_in : ∀ w ∈ vs_r_in, w ∈ lw_tbl := List.forall_mem_cons.mpr ⟨lrw_0, List.forall_mem_append.mpr ⟨fun _ h => absurd h List.not_mem_nil, fun _ h => absurd h List.not_mem_nil⟩⟩
def vs_r_isOf : List Cond := .code yX11_isOf cX11_isOf 2 (some .boolean) :: ([] ++ [])
theorem gw_r_isOf : gGood vs_r_isOf := gGood_co (gGood_of (by decide +kernel)) gGood_nil
theorem il_r_isOf : ∀ w ∈ vs_r_isOf, w ∈ lw_tbl := List.forall_mem_cons.mpr ⟨lrw_1, List.forall_mem_append.mpr ⟨fun _ h => absurd h List.not_mem_nil, fun _ h => absurd h List.not_mem_nil⟩⟩
def vs_r_bits : List Cond := .code yX11_bits cX11_bits 3 (some .int) :: ([] ++ [])
theorem gw_r_bits : gGood vs_r_bits := gGood_co (gGood_of (by decide +kernel)) gGood_nil
theorem il_r_bits : ∀ w ∈ vs_r_bits, w ∈ lw_tbl := List.forall_mem_cons.mpr ⟨lrw_2, List.forall_mem_append.mpr ⟨fun _ h => absurd h List.not_mem_nil, fun _ h => absurd h List.not_mem_nil⟩⟩
/-! The reference's rows: each place has its own numbers -/
theorem gN (x : Int32) : x.toNatClampNeg = x.toInt.toNat := rfl
def gSc (S : Nat → Int32 → Prop) (n : Nat) (f : Nat → Int32) : Prop := ∀ j, j < n → S j (f j)
theorem gSc_upd {S : Nat → Int32 → Prop} {n k : Nat} {f : Nat → Int32} {v : Int32} (h : gSc S n f) (hv : S k v) : gSc S n (upd f k v) := fun j hj => by
  by_cases e : j = k
  · rw [e, pk_us]; exact hv
  · rw [pk_un e]; exact h j hj
theorem gSc_at {S : Nat → Int32 → Prop} {n : Nat} {f : Nat → Int32} {x : Int32} (h : gSc S n f) (hx : vp_in x n) : S x.toNatClampNeg (f x.toNatClampNeg) := h _ (by
  rcases Nat.lt_or_ge x.toNatClampNeg n with q | q
  · exact q
  · exact absurd (Or.inr q) hx)
theorem gSc_eq {S : Nat → Int32 → Prop} {k : Nat} {v w : Int32} (h : S k v) (e : w = v) : S k w := e ▸ h
/-- what is said of a country, place by place; its hour is hm at most -/
def gEl (hm : Int) (j : Nat) (v : Int32) : Prop := (j = 0 → v = 1) ∧ (j = 1 → gIv 2 7 v) ∧ (j = 2 → gIv 0 12 v) ∧ (j = 3 → gIv 0 6 v) ∧ (j = 10 → gIv 0 hm v) ∧ (11 ≤ j ∧ j < 35 ∧ j % 4 = 3 → gIv 0 48 v) ∧ (90 ≤ j ∧ j < 102 ∧ j % 2 = 0 → gIv 0 48 v) ∧ (175 ≤ j ∧ j < 205 ∧ j % 3 = 2 → gIv 0 5 v) ∧ (j = 205 → gIv 0 10 v)
def gKe (hm : Int) (j : Nat) (v : Int32) : Prop := gEl hm (10 + j) v
def gWa (j : Nat) (v : Int32) : Prop := gEl 999 (10 + j % 74) v
theorem gEl_mv {hm : Int} {i j : Nat} {v : Int32} (h : gEl hm i v) (e : i = j) : gEl hm j v := e ▸ h
theorem gEl_m {hm hn : Int} {j : Nat} {v : Int32} (h : gEl hm j v) (hh : hm ≤ hn) : gEl hn j v := by
  obtain ⟨q0, q1, q2, q3, q4, q5, q6, q7, q8⟩ := h
  exact ⟨q0, q1, q2, q3, fun e => gIv_w (q4 e) (Int.le_refl 0) hh, q5, q6, q7, q8⟩
theorem gEl_mono {hm hn : Int} {n : Nat} {f : Nat → Int32} (h : gSc (gEl hm) n f) (hh : hm ≤ hn) : gSc (gEl hn) n f := fun j hj => gEl_m (h j hj) hh
theorem gKe_mono {hm hn : Int} {n : Nat} {f : Nat → Int32} (h : gSc (gKe hm) n f) (hh : hm ≤ hn) : gSc (gKe hn) n f := fun j hj => gEl_m (h j hj) hh
section GEl
variable {hm hn : Int} {f : Nat → Int32} {x v : Int32}
theorem gEl_g (h : gSc (gEl hm) 206 f) (k : Nat) (hk : k < 206) (hx : x.toInt = (k : Int)) : gEl hm k (f x.toNatClampNeg) := by
  have e : x.toNatClampNeg = k := by rw [gN, hx]; exact Int.toNat_natCast k
  rw [e]; exact h k hk
theorem gEl_0 (h : gSc (gEl hm) 206 f) (hx : x.toInt = 0) : gIv 1 1 (f x.toNatClampNeg) := by
  rw [(gEl_g h 0 (by decide) hx).1 rfl]; exact gIv_of (by decide)
theorem gEl_1 (h : gSc (gEl hm) 206 f) (hx : x.toInt = 1) : gIv 2 7 (f x.toNatClampNeg) := (gEl_g h 1 (by decide) hx).2.1 rfl
theorem gEl_2 (h : gSc (gEl hm) 206 f) (hx : x.toInt = 2) : gIv 0 12 (f x.toNatClampNeg) := (gEl_g h 2 (by decide) hx).2.2.1 rfl
theorem gEl_3 (h : gSc (gEl hm) 206 f) (hx : x.toInt = 3) : gIv 0 6 (f x.toNatClampNeg) := (gEl_g h 3 (by decide) hx).2.2.2.1 rfl
theorem gEl_10 (h : gSc (gEl hm) 206 f) (hx : x.toInt = 10) (hh : hm ≤ hn) : gIv 0 hn (f x.toNatClampNeg) := gIv_w ((gEl_g h 10 (by decide) hx).2.2.2.2.1 rfl) (Int.le_refl 0) hh
theorem gEl_205 (h : gSc (gEl hm) 206 f) (hx : x.toInt = 205) : gIv 0 10 (f x.toNatClampNeg) := (gEl_g h 205 (by decide) hx).2.2.2.2.2.2.2.2 rfl
theorem gEl_c (h : gSc (gEl hm) 206 f) (hx : 11 ≤ x.toInt ∧ x.toInt < 35 ∧ x.toInt % 4 = 3) : gIv 0 48 (f x.toNatClampNeg) := (h x.toNatClampNeg (by rw [gN]; omega)).2.2.2.2.2.1 (by rw [gN]; omega)
theorem gEl_t (h : gSc (gEl hm) 206 f) (hx : 90 ≤ x.toInt ∧ x.toInt < 102 ∧ x.toInt % 2 = 0) : gIv 0 48 (f x.toNatClampNeg) := (h x.toNatClampNeg (by rw [gN]; omega)).2.2.2.2.2.2.1 (by rw [gN]; omega)
theorem gEl_n (h : gSc (gEl hm) 206 f) (hx : 175 ≤ x.toInt ∧ x.toInt < 205 ∧ x.toInt % 3 = 2) : gIv 0 5 (f x.toNatClampNeg) := (h x.toNatClampNeg (by rw [gN]; omega)).2.2.2.2.2.2.2.1 (by rw [gN]; omega)
theorem gEl_free (hx : (11 ≤ x.toInt ∧ x.toInt < 35 ∧ ¬ x.toInt % 4 = 3) ∨ (35 ≤ x.toInt ∧ x.toInt < 90) ∨ (102 ≤ x.toInt ∧ x.toInt < 175) ∨ (175 ≤ x.toInt ∧ x.toInt < 205 ∧ ¬ x.toInt % 3 = 2)) : gEl hm x.toNatClampNeg v := by
  rw [gN]
  exact ⟨fun q => absurd q (by omega), fun q => absurd q (by omega), fun q => absurd q (by omega), fun q => absurd q (by omega), fun q => absurd q (by omega), fun q => absurd q (by omega), fun q => absurd q (by omega), fun q => absurd q (by omega), fun q => absurd q (by omega)⟩
theorem gEl_sf (h : gSc (gEl hm) 206 f) (hx : (11 ≤ x.toInt ∧ x.toInt < 35 ∧ ¬ x.toInt % 4 = 3) ∨ (35 ≤ x.toInt ∧ x.toInt < 90) ∨ (102 ≤ x.toInt ∧ x.toInt < 175) ∨ (175 ≤ x.toInt ∧ x.toInt < 205 ∧ ¬ x.toInt % 3 = 2)) : gSc (gEl hm) 206 (upd f x.toNatClampNeg v) := gSc_upd h (gEl_free hx)
theorem gEl_sc (h : gSc (gEl hm) 206 f) (hx : 11 ≤ x.toInt ∧ x.toInt < 35 ∧ x.toInt % 4 = 3) (hv : gIv 0 48 v) : gSc (gEl hm) 206 (upd f x.toNatClampNeg v) := gSc_upd h (by
  rw [gN]
  exact ⟨fun q => absurd q (by omega), fun q => absurd q (by omega), fun q => absurd q (by omega), fun q => absurd q (by omega), fun q => absurd q (by omega), fun _ => hv, fun q => absurd q (by omega), fun q => absurd q (by omega), fun q => absurd q (by omega)⟩)
theorem gEl_sn (h : gSc (gEl hm) 206 f) (hx : 175 ≤ x.toInt ∧ x.toInt < 205 ∧ x.toInt % 3 = 2) (hv : gIv 0 5 v) : gSc (gEl hm) 206 (upd f x.toNatClampNeg v) := gSc_upd h (by
  rw [gN]
  exact ⟨fun q => absurd q (by omega), fun q => absurd q (by omega), fun q => absurd q (by omega), fun q => absurd q (by omega), fun q => absurd q (by omega), fun q => absurd q (by omega), fun q => absurd q (by omega), fun _ => hv, fun q => absurd q (by omega)⟩)
theorem gEl_s205 (h : gSc (gEl hm) 206 f) (hv : gIv 0 10 v) : gSc (gEl hm) 206 (upd f 205 v) := gSc_upd h ⟨fun q => absurd q (by decide), fun q => absurd q (by decide), fun q => absurd q (by decide), fun q => absurd q (by decide), fun q => absurd q (by decide), fun q => absurd q.2.1 (by decide), fun q => absurd q.2.1 (by decide), fun q => absurd q.2.1 (by decide), fun _ => hv⟩
theorem gEl_s10 (h : gSc (gEl hm) 206 f) (hv : gIv 0 hn v) : gSc (gEl hn) 206 (upd f 10 v) := fun j hj => by
  by_cases e : j = 10
  · rw [e, pk_us]; exact ⟨fun q => absurd q (by decide), fun q => absurd q (by decide), fun q => absurd q (by decide), fun q => absurd q (by decide), fun _ => hv, fun q => absurd q.1 (by decide), fun q => absurd q.1 (by decide), fun q => absurd q.1 (by decide), fun q => absurd q (by decide)⟩
  · rw [pk_un e]
    obtain ⟨q0, q1, q2, q3, q4, q5, q6, q7, q8⟩ := h j hj
    exact ⟨q0, q1, q2, q3, fun q => absurd q e, q5, q6, q7, q8⟩
theorem gEl_h (h : gSc (gEl hm) 206 f) (hv : gIv 0 hn (f 10)) : gSc (gEl hn) 206 f := fun j hj => by
  obtain ⟨q0, q1, q2, q3, q4, q5, q6, q7, q8⟩ := h j hj
  exact ⟨q0, q1, q2, q3, fun q => by rw [q]; exact hv, q5, q6, q7, q8⟩
theorem gEl_f10 (h : gSc (gEl hm) 206 f) : gIv 0 hm (f 10) := (h 10 (by decide)).2.2.2.2.1 rfl
end GEl
theorem gKe_0 {hm : Int} (h : 0 ≤ hm) : gSc (gKe hm) 74 (fun _ => 0) := by
  intro j hj
  show gEl hm (10 + j) 0
  have z : (0 : Int32).toInt = 0 := by decide
  exact ⟨fun q => absurd q (by omega), fun q => absurd q (by omega), fun q => absurd q (by omega), fun q => absurd q (by omega), fun _ => ⟨by omega, by omega⟩, fun _ => gIv_of (a := 0) (b := 48) (x := 0) (by decide), fun _ => gIv_of (a := 0) (b := 48) (x := 0) (by decide), fun q => absurd q.1 (by omega), fun q => absurd q (by omega)⟩
theorem gI_addl {a b n : Int} {x y k : Int32} (e : y = k + x) (hx : gIv a b x) (hk : k.toInt = n) (h : -2147483648 ≤ n + a ∧ n + b ≤ 2147483647) : y.toInt = n + x.toInt := by
  obtain ⟨p1, p2⟩ := hx
  rw [e, Jvm.Kit.i32_add (by omega) (by omega), hk]
theorem gI_subc {a b n : Int} {x y k : Int32} (e : y = x - k) (hx : gIv a b x) (hk : k.toInt = n) (h : -2147483648 ≤ a - n ∧ b - n ≤ 2147483647) : y.toInt = x.toInt + -n := by
  obtain ⟨p1, p2⟩ := hx
  rw [e, Jvm.Kit.i32_sub (by omega) (by omega), hk]; omega
theorem gI_mulc {a b n : Int} {x y k : Int32} (e : y = k * x) (hx : gIv a b x) (hk : k.toInt = n) (h0 : 0 ≤ n) (h : -2147483648 ≤ n * a ∧ n * b ≤ 2147483647) : y.toInt = n * x.toInt := by
  obtain ⟨p1, p2⟩ := hx
  have e1 : n * a ≤ n * x.toInt := Int.mul_le_mul_of_nonneg_left p1 h0
  have e2 : n * x.toInt ≤ n * b := Int.mul_le_mul_of_nonneg_left p2 h0
  rw [e, Jvm.Kit.i32_mul (by rw [hk]; omega) (by rw [hk]; omega), hk]
theorem gz_jle {x y : Int32} {a b : Int64} (h : a ≤ b) (ha : a = x.toInt64) (hb : b = y.toInt64) : x ≤ y := by
  rw [ha, hb, Int64.le_iff_toInt_le, Int32.toInt_toInt64, Int32.toInt_toInt64] at h
  exact gz_le.mpr h
theorem gJ_ge {x : Int32} {a b : Int64} (e : x = lg_cmp a b) (h : ¬ x < 0) : b ≤ a := by rw [e] at h; exact (lg_cmp_ge _ _).mp (Int32.not_lt.mp h)
theorem gJ_le {x : Int32} {a b : Int64} (e : x = lg_cmp a b) (h : ¬ 0 < x) : a ≤ b := by rw [e] at h; exact (lg_cmp_le _ _).mp (Int32.not_lt.mp h)
/-- s &= s - 1 comes to an end -/
theorem gM_bits {s y z : Int32} {n : Nat} (ez : z = s - 1) (ey : y = s &&& z) (h : ¬ s = 0) (hm : s.toBitVec.toNat < n + 1) : y.toBitVec.toNat < n := by
  have e1 : y.toBitVec = s.toBitVec &&& (s.toBitVec - 1) := by rw [ey, ez]; rfl
  have h0 : s.toBitVec.toNat ≠ 0 := fun q => h (Int32.toBitVec_inj.mp (BitVec.eq_of_toNat_eq (by rw [q]; rfl)))
  have e2 : (s.toBitVec - 1).toNat = s.toBitVec.toNat - 1 := by
    rw [BitVec.toNat_sub]
    have := s.toBitVec.isLt
    simp
    omega
  rw [e1, BitVec.toNat_and]
  have := @Nat.and_le_right s.toBitVec.toNat (s.toBitVec - 1).toNat
  omega
theorem gJ_n1 {x : Int32} {a b : Int64} (e : x = lg_cmp a b) (h : x < 0) : ¬ b ≤ a := fun q => by rw [e] at h; exact absurd ((lg_cmp_ge _ _).mpr q) (Int32.not_le.mpr h)
theorem gJ_n2 {x : Int32} {a b : Int64} (e : x = lg_cmp a b) (h : 0 < x) : ¬ a ≤ b := fun q => by rw [e] at h; exact absurd ((lg_cmp_le _ _).mpr q) (Int32.not_le.mpr h)
/-! Texts of signs that are reckoned out on a stack -/
/-- one sign: how high the stack is ahead of it, and behind -/
def gStp (v : Int32) (a b : Nat) : Prop := (v &&& 15 = 0 ∧ b = a + 1) ∨ (v &&& 15 = 1 ∧ b = a + 1 ∧ gIv 0 11 (v >>> ((4 : Int32) &&& 31))) ∨ (v &&& 15 = 11 ∧ 1 ≤ a ∧ b = a) ∨ (¬ v &&& 15 = 0 ∧ ¬ v &&& 15 = 1 ∧ ¬ v &&& 15 = 11 ∧ 2 ≤ a ∧ b + 1 = a)
theorem gStp_0 {v o : Int32} {a b : Nat} (h : gStp v a b) (e : o = v &&& 15) (c : o = 0) : b = a + 1 := by
  rw [c] at e
  rcases h with ⟨_, h⟩ | ⟨q, _⟩ | ⟨q, _⟩ | ⟨q, _⟩
  · exact h
  · rw [← e] at q; exact absurd q (by decide)
  · rw [← e] at q; exact absurd q (by decide)
  · exact absurd e.symm q
theorem gStp_1 {v o : Int32} {a b : Nat} (h : gStp v a b) (e : o = v &&& 15) (c : o = 1) : b = a + 1 ∧ gIv 0 11 (v >>> ((4 : Int32) &&& 31)) := by
  rw [c] at e
  rcases h with ⟨q, _⟩ | ⟨_, h⟩ | ⟨q, _⟩ | ⟨_, q, _⟩
  · rw [← e] at q; exact absurd q (by decide)
  · exact h
  · rw [← e] at q; exact absurd q (by decide)
  · exact absurd e.symm q
theorem gStp_11 {v o : Int32} {a b : Nat} (h : gStp v a b) (e : o = v &&& 15) (c : o = 11) : 1 ≤ a ∧ b = a := by
  rw [c] at e
  rcases h with ⟨q, _⟩ | ⟨q, _⟩ | ⟨_, h⟩ | ⟨_, _, q, _⟩
  · rw [← e] at q; exact absurd q (by decide)
  · rw [← e] at q; exact absurd q (by decide)
  · exact h
  · exact absurd e.symm q
theorem gStp_2 {v o : Int32} {a b : Nat} (h : gStp v a b) (e : o = v &&& 15) (c0 : ¬ o = 0) (c1 : ¬ o = 1) (c2 : ¬ o = 11) : 2 ≤ a ∧ b + 1 = a := by
  rw [e] at c0 c1 c2
  rcases h with ⟨q, _⟩ | ⟨q, _⟩ | ⟨q, _⟩ | ⟨_, _, _, h⟩
  · exact absurd q c0
  · exact absurd q c1
  · exact absurd q c2
  · exact h
def gPf (sg : Nat → Int32) (b : Nat) (lo hi : Int32) : Prop := gIv 0 400 lo ∧ gIv 0 400 hi ∧ lo.toInt ≤ hi.toInt ∧ ∃ ht : Nat → Nat, ht lo.toNatClampNeg = 0 ∧ ht hi.toNatClampNeg = 1 ∧ (∀ i, lo.toNatClampNeg ≤ i → i < hi.toNatClampNeg → gStp (sg (b + i)) (ht i) (ht (i + 1))) ∧ ∀ i, ht i ≤ 60
/-- the rules that are kept, each good -/
def gRv (sg cl cs : Nat → Int32) (r : Int32) : Prop := ∀ t : Nat, (t : Int) < r.toInt → gIv 0 12 (cs t) ∧ ∀ c : Nat, (c : Int) < (cs t).toInt → gPf sg (400 * t) (cl (48 * t + 4 * c)) (cl (48 * t + 4 * c + 1)) ∧ ((cl (48 * t + 4 * c + 2)).toInt < 0 ∨ gPf sg (400 * t) (cl (48 * t + 4 * c + 2)) (cl (48 * t + 4 * c + 3)))
theorem gRv_cs {sg cl cs : Nat → Int32} {r a : Int32} (h : gRv sg cl cs r) (h0 : 0 ≤ a.toInt) (h1 : a.toInt < r.toInt) : gIv 0 12 (cs a.toNatClampNeg) := (h a.toNatClampNeg (by rw [gN]; omega)).1
/-- a clause's sum, and its test, by places as the program reckons them -/
theorem gRv_s {sg cl cs : Nat → Int32} {r a n c x y p q : Int32} (h : gRv sg cl cs r) (h0 : 0 ≤ a.toInt) (h1 : a.toInt < r.toInt) (en : n = cs a.toNatClampNeg) (c0 : 0 ≤ c.toInt) (c1 : c.toInt < n.toInt) (hx : x.toInt = 48 * a.toInt + 4 * c.toInt) (hy : y.toInt = 48 * a.toInt + 4 * c.toInt + 1) (ep : p = cl x.toNatClampNeg) (eq : q = cl y.toNatClampNeg) : gPf sg (400 * a.toNatClampNeg) p q := by
  have e1 : x.toNatClampNeg = 48 * a.toNatClampNeg + 4 * c.toNatClampNeg := by rw [gN, gN, gN]; omega
  have e2 : y.toNatClampNeg = 48 * a.toNatClampNeg + 4 * c.toNatClampNeg + 1 := by rw [gN, gN, gN]; omega
  rw [ep, eq, e1, e2]
  exact ((h a.toNatClampNeg (by rw [gN]; omega)).2 c.toNatClampNeg (by rw [← en, gN]; omega)).1
theorem gRv_t {sg cl cs : Nat → Int32} {r a n c x y p q : Int32} (h : gRv sg cl cs r) (h0 : 0 ≤ a.toInt) (h1 : a.toInt < r.toInt) (en : n = cs a.toNatClampNeg) (c0 : 0 ≤ c.toInt) (c1 : c.toInt < n.toInt) (hx : x.toInt = 48 * a.toInt + 4 * c.toInt + 2) (hy : y.toInt = 48 * a.toInt + 4 * c.toInt + 3) (ep : p = cl x.toNatClampNeg) (eq : q = cl y.toNatClampNeg) (hp : 0 ≤ p.toInt) : gPf sg (400 * a.toNatClampNeg) p q := by
  have e1 : x.toNatClampNeg = 48 * a.toNatClampNeg + 4 * c.toNatClampNeg + 2 := by rw [gN, gN, gN]; omega
  have e2 : y.toNatClampNeg = 48 * a.toNatClampNeg + 4 * c.toNatClampNeg + 3 := by rw [gN, gN, gN]; omega
  rw [ep, e1] at hp
  rw [ep, eq, e1, e2]
  rcases ((h a.toNatClampNeg (by rw [gN]; omega)).2 c.toNatClampNeg (by rw [← en, gN]; omega)).2 with z | z
  · omega
  · exact z
theorem gI_same {x y : Int32} (h : x.toInt = y.toInt) : x = y := Int32.toInt_inj.mp h
theorem gLay {f : Nat → Int32} {k x v : Int32} (h9 : 0 < k.toInt → gIv 0 999 (f 10)) (e : gEl 999 (10 + k.toNatClampNeg) v) (hk : 0 ≤ k.toInt) (hx : x.toInt = 10 + k.toInt) : gIv 0 999 (upd f x.toNatClampNeg v 10) := by
  have ex : x.toNatClampNeg = 10 + k.toNatClampNeg := by rw [gN, gN]; omega
  rw [ex]
  by_cases q : k.toInt = 0
  · have e0 : 10 + k.toNatClampNeg = 10 := by rw [gN]; omega
    rw [e0] at e ⊢
    rw [pk_us]
    exact e.2.2.2.2.1 rfl
  · have e0 : (10 : Nat) ≠ 10 + k.toNatClampNeg := by rw [gN]; omega
    rw [pk_un e0]
    exact h9 (by omega)
set_option maxHeartbeats 4000000 in
set_option maxRecDepth 100000 in
theorem r_in (l : Launch) (G : va_G) (k : Nat → ClassId) (sa : Nat → Nat) (a : Int64) (lo : Int64) (hi : Int64) : Met l yX11_in vs_r_in ({ frames := 0, cells := 0, slots := 0, locals := 0 } : Room) (gR G k sa [.long a, .long lo, .long hi] []) (vp_Si (fun r => (r = 1 ∧ lo ≤ a ∧ a ≤ hi) ∨ (r = 0 ∧ (¬ (lo ≤ a ∧ a ≤ hi))))) 0 0 (fun _ => False) := by
  refine gz_metR (cc := cX11_in) (maxL := 6) (ret := (some .boolean)) (by decide) rfl (Nat.le_of_ble_eq_true rfl) ?_
  intro p_ e_ s_ m below_ meth_ c_ ls hx hb hr hml hts hown hlocks hP hE hZ hS hl
  have hl : lv_has ls 6 [(0, .long a), (2, .long lo), (4, .long hi)] := hl
  refine lv_lload_n hx hb dX11_in_0 rfl (lv_at hl 0 rfl) ?_
  refine lv_lload_n hx hb dX11_in_1 rfl (lv_at hl 1 rfl) ?_
  refine W.lcmp hx hb dX11_in_2 ?_
  refine lv_topi (fun x_2 ex_2 => ?_)
  have hx_2 : gIv (-1) 1 x_2 := gIv_eq (gIv_cmp _ _) ex_2
  refine lv_if_lt (tgt := 17) hx hb dX11_in_3 (by decide) (fun c_3 => ?_) (fun c_3 => ?_)
  · have h3_x_2 : gIv (-1) (-1) x_2 := gIv_lt_l hx_2 (gIv_of (a := 0) (b := 0) (x := 0) (by decide)) c_3 (by decide)
    refine lv_iconst (v := 0) hx hb dX11_in_17 (by decide) ?_
    exact W.zret (v := 0) hx hb hr (by decide) (fun t ht hW => ⟨0, rfl, (Or.inr ⟨rfl, fun q => gJ_n1 ex_2 c_3 q.1⟩), ht⟩) (fun _ h9 => absurd h9 List.not_mem_nil) dX11_in_18
  · have h3_x_2 : gIv 0 1 x_2 := gIv_le_r (gIv_of (a := 0) (b := 0) (x := 0) (by decide)) hx_2 (gz_nlt c_3) (by decide)
    refine lv_lload_n hx hb dX11_in_6 rfl (lv_at hl 0 rfl) ?_
    refine lv_lload hx hb dX11_in_7 (lv_at hl 2 rfl) ?_
    refine W.lcmp hx hb dX11_in_9 ?_
    refine lv_topi (fun x_9 ex_9 => ?_)
    have hx_9 : gIv (-1) 1 x_9 := gIv_eq (gIv_cmp _ _) ex_9
    refine lv_if_gt (tgt := 17) hx hb dX11_in_10 (by decide) (fun c_10 => ?_) (fun c_10 => ?_)
    · have h10_x_9 : gIv 1 1 x_9 := gIv_lt_r (gIv_of (a := 0) (b := 0) (x := 0) (by decide)) hx_9 c_10 (by decide)
      refine lv_iconst (v := 0) hx hb dX11_in_17 (by decide) ?_
      exact W.zret (v := 0) hx hb hr (by decide) (fun t ht hW => ⟨0, rfl, (Or.inr ⟨rfl, fun q => gJ_n2 ex_9 c_10 q.2⟩), ht⟩) (fun _ h9 => absurd h9 List.not_mem_nil) dX11_in_18
    · have h10_x_9 : gIv (-1) 0 x_9 := gIv_le_l hx_9 (gIv_of (a := 0) (b := 0) (x := 0) (by decide)) (gz_nlt c_10) (by decide)
      refine lv_iconst (v := 1) hx hb dX11_in_13 (by decide) ?_
      refine lv_goto (tgt := 18) hx hb dX11_in_14 (by decide) ?_
      exact W.zret (v := 1) hx hb hr (by decide) (fun t ht hW => ⟨1, rfl, (Or.inl ⟨rfl, gJ_ge ex_2 c_3, gJ_le ex_9 c_10⟩), ht⟩) (fun _ h9 => absurd h9 List.not_mem_nil) dX11_in_18
set_option maxHeartbeats 4000000 in
set_option maxRecDepth 100000 in
theorem r_isOf (l : Launch) (G : va_G) (k : Nat → ClassId) (sa : Nat → Nat) (a : Int32) (b : Int32) : Met l yX11_isOf vs_r_isOf ({ frames := 0, cells := 0, slots := 0, locals := 0 } : Room) (gR G k sa [.int a, .int b] []) (vp_Si (fun r => gIv 0 1 r)) 0 0 (fun _ => False) := by
  refine gz_metR (cc := cX11_isOf) (maxL := 2) (ret := (some .boolean)) (by decide) rfl (Nat.le_of_ble_eq_true rfl) ?_
  intro p_ e_ s_ m below_ meth_ c_ ls hx hb hr hml hts hown hlocks hP hE hZ hS hl
  have hl : lv_has ls 2 [(0, .int a), (1, .int b)] := hl
  have hB_14 : ∀ (g14_0 : Int32) (ls : Array Slot), gIv 0 1 g14_0 → lv_has ls 2 [] → W p_ l e_ (headSpec vs_r_isOf ({ frames := 0, cells := 0, slots := 0, locals := 0 } : Room)).room s_ m [.int a, .int b].toArray below_ meth_ c_ s_.heap [] 0 0 (MQ below_ (vp_Si (fun r => gIv 0 1 r)) [.int a, .int b].toArray s_ 0 0 (fun _ => False)) (F0 m 14 ls [.int g14_0]) := by
    intro g14_0 ls b14_0 hl
    exact W.zret (v := g14_0) hx hb hr (gIv_z b14_0) (fun t ht hW => ⟨g14_0, rfl, b14_0, ht⟩) (fun _ h9 => absurd h9 List.not_mem_nil) dX11_isOf_14
  refine lv_iload_n hx hb dX11_isOf_0 rfl (lv_at hl 0 rfl) ?_
  refine lv_iload_n hx hb dX11_isOf_1 rfl (lv_at hl 1 rfl) ?_
  refine lv_ishr hx hb dX11_isOf_2 ?_
  refine lv_topi (fun x_2 ex_2 => ?_)
  refine lv_iconst (v := 1) hx hb dX11_isOf_3 (by decide) ?_
  refine lv_iand hx hb dX11_isOf_4 ?_
  refine lv_topi (fun x_4 ex_4 => ?_)
  have hx_4 : gIv 0 1 x_4 := gIv_eq (gIv_and _ 1 (by decide) (by decide) (by decide)) ex_4
  refine lv_iconst (v := 1) hx hb dX11_isOf_5 (by decide) ?_
  refine lv_icmp_ne (tgt := 13) hx hb dX11_isOf_6 (by decide) (fun c_6 => ?_) (fun c_6 => ?_)
  · have h6_x_4 : gIv 0 0 x_4 := gIv_ne_hi hx_4 (gIv_of (a := 1) (b := 1) (x := 1) (by decide)) c_6 (by decide)
    refine lv_iconst (v := 0) hx hb dX11_isOf_13 (by decide) ?_
    exact hB_14 0 ls (gIv_of (a := 0) (b := 1) (x := 0) (by decide)) (lv_sub hl [] rfl)
  · have h6_x_4 : gIv 1 1 x_4 := gIv_eqc hx_4 (gIv_of (a := 1) (b := 1) (x := 1) (by decide)) c_6 (by decide)
    refine lv_iconst (v := 1) hx hb dX11_isOf_9 (by decide) ?_
    refine lv_goto (tgt := 14) hx hb dX11_isOf_10 (by decide) ?_
    exact hB_14 1 ls (gIv_of (a := 0) (b := 1) (x := 1) (by decide)) (lv_sub hl [] rfl)
set_option maxHeartbeats 4000000 in
set_option maxRecDepth 100000 in
theorem r_bits (l : Launch) (G : va_G) (k : Nat → ClassId) (sa : Nat → Nat) (a : Int32) : Met l yX11_bits vs_r_bits ({ frames := 0, cells := 0, slots := 0, locals := 0 } : Room) (gR G k sa [.int a] []) (vp_Si (fun r => True)) 0 0 (fun _ => False) := by
  refine gz_metR (cc := cX11_bits) (maxL := 3) (ret := (some .int)) (by decide) rfl (Nat.le_of_ble_eq_true rfl) ?_
  intro p_ e_ s_ m below_ meth_ c_ ls hx hb hr hml hts hown hlocks hP hE hZ hS hl
  have hl : lv_has ls 3 [(0, .int a)] := hl
  have hL_4 : ∀ (n : Nat) (g4_0 : Int32) (g4_1 : Int32) (ls : Array Slot), g4_1.toBitVec.toNat < n → lv_has ls 3 [(1, .int g4_0), (2, .int g4_1)] → W p_ l e_ (headSpec vs_r_bits ({ frames := 0, cells := 0, slots := 0, locals := 0 } : Room)).room s_ m [.int a].toArray below_ meth_ c_ s_.heap [] 0 0 (MQ below_ (vp_Si (fun r => True)) [.int a].toArray s_ 0 0 (fun _ => False)) (F0 m 4 ls []) := by
    intro n
    induction n with
    | zero => intro g4_0 g4_1 ls  hm_4 hl; exact absurd hm_4 (Nat.not_lt_zero _)
    | succ n ih_4 =>
      intro g4_0 g4_1 ls  hm_4 hl
      refine lv_iload_n hx hb dX11_bits_4 rfl (lv_at hl 1 rfl) ?_
      refine lv_if_eq (tgt := 20) hx hb dX11_bits_5 (by decide) (fun c_5 => ?_) (fun c_5 => ?_)
      · have h5_g4_1 : gIv 0 0 g4_1 := gIv_eqc (gIv_any g4_1) (gIv_of (a := 0) (b := 0) (x := 0) (by decide)) c_5 (by decide)
        refine lv_iload_n hx hb dX11_bits_20 rfl (lv_at hl 0 rfl) ?_
        exact W.iret (v := g4_0) hx hb hr (fun t ht hW => ⟨g4_0, rfl, trivial, ht⟩) (fun _ h9 => absurd h9 List.not_mem_nil) dX11_bits_21
      · obtain ⟨x_8, ex_8⟩ : ∃ y : Int32, y = g4_0 + 1 := ⟨_, rfl⟩
        refine lv_iinc (v := x_8) (lv' := [(1, .int x_8), (2, .int g4_1)]) hx hb dX11_bits_8 hl (k := 0) rfl (by rw [ex_8]; rfl) (by decide) rfl (fun ls hl => ?_)
        refine lv_iload_n hx hb dX11_bits_11 rfl (lv_at hl 1 rfl) ?_
        refine lv_iload_n hx hb dX11_bits_12 rfl (lv_at hl 1 rfl) ?_
        refine lv_iconst (v := 1) hx hb dX11_bits_13 (by decide) ?_
        refine lv_isub hx hb dX11_bits_14 ?_
        refine lv_topi (fun x_14 ex_14 => ?_)
        refine lv_iand hx hb dX11_bits_15 ?_
        refine lv_topi (fun x_15 ex_15 => ?_)
        refine lv_istore_n (lv' := [(2, .int x_15), (1, .int x_8)]) hx hb dX11_bits_16 rfl hl (by decide) rfl (fun ls hl => ?_)
        refine lv_goto (tgt := 4) hx hb dX11_bits_17 (by decide) ?_
        exact ih_4 x_8 x_15 ls  (gM_bits ex_14 ex_15 c_5 hm_4) (lv_sub hl [1, 0] rfl)
  refine lv_iconst (v := 0) hx hb dX11_bits_0 (by decide) ?_
  refine lv_istore_n (lv' := [(1, .int 0), (0, .int a)]) hx hb dX11_bits_1 rfl hl (by decide) rfl (fun ls hl => ?_)
  refine lv_iload_n hx hb dX11_bits_2 rfl (lv_at hl 1 rfl) ?_
  refine lv_istore_n (lv' := [(2, .int a), (1, .int 0), (0, .int a)]) hx hb dX11_bits_3 rfl hl (by decide) rfl (fun ls hl => ?_)
  exact hL_4 _ 0 a ls  (Nat.lt_succ_self _) (lv_sub hl [1, 0] rfl)
