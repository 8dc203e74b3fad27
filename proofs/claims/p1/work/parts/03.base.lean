/-! What all contracts share: the tables' words that ride beside the worlds, starts and ends of contracts, calls with the frame rule -/
abbrev gT (k : Nat → ClassId) : List (ClassId × FieldType) := [(k 0, .int), (k 1, .long), (k 2, .boolean), (k 3, .object "GossamerGate$Rule"), (k 4, .object "GossamerGate$World"), (k 5, .object "GossamerGate$Day"), (k 6, .byte)]
def gz_N : List (String × Nat × MethodName) := [(RX10, 34, yX0_init), (RX10, 51, yX9_init), (RX10, 9, yX7_init), (RX10, 98, yX5_init), (RX0, 30, yX2_init), (RX3, 22, yX2_init), (RX4, 159, yX10_outside), (RX4, 19, yX2_init), (RX6, 11, yX5_init), (RX8, 66, yX10_outside), (RX9, 11, yX0_init), (RX9, 20, yX2_init)]
def gz_O : List String := ["GossamerGate$Rule", "GossamerGate$World", "GossamerGate$Day"]
def gz_S : List (String × Nat × String) := [(RX1, 40, "country wind person gate"), (RX6, 37, "go"), (RX6, 59, "if"), (RX6, 80, "and"), (RX6, 82, "or"), (RX6, 89, "not"), (RX6, 120, "person row column thread heavy way force next air here tangled hour")]
def gE (G : va_G) (k : Nat → ClassId) (sa : Nat → Nat) (U : State) : Prop :=
  va_K G vwCl (gT k) U ∧ (∀ q ∈ gz_N, va_Nw (.methodLinkNest q.1 q.2.1 q.2.2 RX10) U) ∧ (∀ q ∈ gz_O, va_AO q U) ∧ ∀ (i : Nat) (q : String × Nat × String), gz_S[i]? = some q → vk_R q.1 q.2.1 q.2.2 (sa i) U
theorem gE.warm {G : va_G} {k : Nat → ClassId} {sa : Nat → Nat} {s U : State} (hW : s.WarmedH U.vm) (h : gE G k sa s) : gE G k sa U :=
  ⟨va_K.moved hW.alike h.1, fun q hq => va_Nw.warmM hW (h.2.1 q hq), fun q hq => va_AO.moved hW.alike (h.2.2.1 q hq), fun i q hq => vk_R.warm hW (h.2.2.2 i q hq)⟩
theorem gE.call {G : va_G} {k : Nat → ClassId} {sa : Nat → Nat} {U : State} {g : JFrame} {mk : MethodId} {a : Array Value} (h : gE G k sa U) : gE G k sa (U.calling g mk a) :=
  ⟨va_K.moved (u := U) (U := U.calling g mk a) (Vm.Alike.refl U.vm) h.1, fun q hq => va_Nw.same rfl (u := U) rfl (h.2.1 q hq), fun q hq => va_AO.moved (u := U) (U := U.calling g mk a) (Vm.Alike.refl U.vm) (h.2.2.1 q hq), fun i q hq => vk_R.same (u := U) rfl (h.2.2.2 i q hq)⟩
theorem gE.K {G : va_G} {k : Nat → ClassId} {sa : Nat → Nat} {U : State} (h : gE G k sa U) : va_K G vwCl (gT k) U := h.1
theorem gE.N {G : va_G} {k : Nat → ClassId} {sa : Nat → Nat} {U : State} (h : gE G k sa U) (i : Nat) {a : String} {n : Nat} {y : MethodName} (hi : gz_N[i]? = some (a, n, y)) : va_Nw (.methodLinkNest a n y RX10) U := h.2.1 _ (List.mem_of_getElem? hi)
theorem gE.O {G : va_G} {k : Nat → ClassId} {sa : Nat → Nat} {U : State} (h : gE G k sa U) (i : Nat) {a : String} (hi : gz_O[i]? = some a) : va_AO a U := h.2.2.1 _ (List.mem_of_getElem? hi)
theorem gE.S {G : va_G} {k : Nat → ClassId} {sa : Nat → Nat} {U : State} (h : gE G k sa U) (i : Nat) {a t : String} {n : Nat} (hi : gz_S[i]? = some (a, n, t)) : vk_R a n t (sa i) U := h.2.2.2 i _ hi
/-- a contract's start: a world of its own, which it may change -/
def gP (G : va_G) (k : Nat → ClassId) (sa : Nat → Nat) (av : List Value) (ws : va_W) (sz : Nat) : Array Value → State → Prop := va_Pc av (fun U => U.heap.size = sz ∧ va_P G vwCl ws U.heap ∧ gE G k sa U ∧ va_D (fun _ => True) ws)
/-- a contract's start: a world that is looked at alone -/
def gR (G : va_G) (k : Nat → ClassId) (sa : Nat → Nat) (av : List Value) (ws : va_W) : Array Value → State → Prop := va_Pc av (fun U => va_P G vwCl ws U.heap ∧ gE G k sa U)
abbrev gO {S : Type} (G : va_G) (A : Nat → Prop) (wo : S → va_W) : S → State → Prop := fun u t => va_P G vwCl (wo u) t.heap ∧ va_D A (wo u)
theorem gP.bl {G : va_G} {k : Nat → ClassId} {sa : Nat → Nat} {av : List Value} {ws : va_W} {sz : Nat} : FrameBlind (gP G k sa av ws sz) := fun _ _ _ _ q => by
  obtain ⟨q0, q1, q2, q3, q4⟩ := q
  exact ⟨q0, q1, q2, q3.call, q4⟩
theorem gR.bl {G : va_G} {k : Nat → ClassId} {sa : Nat → Nat} {av : List Value} {ws : va_W} : FrameBlind (gR G k sa av ws) := fun _ _ _ _ q => by
  obtain ⟨q0, q1, q2⟩ := q
  exact ⟨q0, q1, q2.call⟩
theorem gz_pick {ws wc : va_W} {isC : List Nat} (hC : isC.map (fun i => ws[i]?) = wc.map some) : isC.filterMap (fun i => ws[i]?) = wc := by
  have h : isC.filterMap (fun i => ws[i]?) = (isC.map (fun i => ws[i]?)).filterMap id := by rw [List.filterMap_map]; rfl
  rw [h, hC, List.filterMap_map]
  simp
theorem gP.pre {G : va_G} {k : Nat → ClassId} {sa : Nat → Nat} {av : List Value} {ws wc : va_W} {s : State} {H : Heap} {A : Nat → Prop} (hE : gE G k sa s) (hP : va_P G vwCl ws H) (hD : va_D A ws) (isC : List Nat) (hC : isC.map (fun i => ws[i]?) = wc.map some) (hn : va_nd isC = true) : ∀ U : State, U.heap = H → s.WarmedH U.vm → gP G k sa av wc H.size av.toArray U := by
  intro U hU hW
  exact ⟨rfl, by rw [hU], by rw [hU]; exact hP.sub isC (gz_pick hC), hE.warm hW, (hD.sub isC hn hC).weaken (fun _ _ _ _ => trivial)⟩
theorem gR.pre {G : va_G} {k : Nat → ClassId} {sa : Nat → Nat} {av : List Value} {ws wc : va_W} {s : State} {H : Heap} (hE : gE G k sa s) (hP : va_P G vwCl ws H) (isC : List Nat) (hC : isC.map (fun i => ws[i]?) = wc.map some) : ∀ U : State, U.heap = H → s.WarmedH U.vm → gR G k sa av wc av.toArray U := by
  intro U hU hW
  exact ⟨rfl, by rw [hU]; exact hP.sub isC (gz_pick hC), hE.warm hW⟩
theorem gz_met {l : Launch} {y : MethodName} {ws ws' : List Cond} {rm : Room} {av : List Value} {wi : va_W} {sz : Nat} {Qc : Array Value → State → Outcome → State → Prop} {mc ms : Nat} {cc : ByteArray} {maxL : Nat} {ret : Option FieldType} {G : va_G} {k : Nat → ClassId} {sa : Nat → Nat}
    (hy : plainName y.cls = true) (hw : ws = Cond.code y cc maxL ret :: ws') (hn : (lg_sl av).length ≤ maxL)
    (body : ∀ (p : Program) (e : Env) (s : State) (m : MethodId) (below : List Frame) (meth : Method) (c : Code) (ls : Array Slot), p.tables.exec = Jvm.exec → c.code = cc → meth.sig.returnType = ret → c.maxLocals = maxL → (∀ w ∈ ws, w.before av.toArray s = true) → s.vm.findClass y.cls = some m.cls → meth.locks = false → meth.name = y.name →
      va_P G vwCl wi s.heap → gE G k sa s → va_D (va_A wi sz) wi → (∀ q : Nat, s.heap.size ≤ q → va_A wi sz q) → va_S (va_A wi sz) s.heap s.heap [] → lv_has ls maxL (lv_args 0 av) →
      W p l e (headSpec ws rm).room s m av.toArray below meth c s.heap [] 0 0 (MQ below Qc av.toArray s mc ms (va_A wi sz)) (F0 m 0 ls [])) : Met l y ws rm (gP G k sa av wi sz) Qc mc ms (va_A wi sz) := by
  refine Met.ofW (cc := cc) (maxL := maxL) (ret := ret) hy hw ?_
  intro p e s m args below meth c s₁ B hml hv
  obtain ⟨rfl, hsz, hP, hE, hD0⟩ := hv
  have hl := lv_entry av (n := maxL) hn
  have hb := body p e s m below meth c _ B.exec B.bytes B.returns hml (atoms_spec (ws := ws) B.pre) (findClass_of_methodNamed B.named) B.notSynchronized (name_of_methodNamed B.named B.method).1 hP hE hD0.self (fun q h => Or.inr (by rw [← hsz]; exact h)) va_S.rf hl
  rw [lg_entry_eq]
  exact hb
theorem gz_metR {l : Launch} {y : MethodName} {ws ws' : List Cond} {rm : Room} {av : List Value} {wi : va_W} {Qc : Array Value → State → Outcome → State → Prop} {cc : ByteArray} {maxL : Nat} {ret : Option FieldType} {G : va_G} {k : Nat → ClassId} {sa : Nat → Nat}
    (hy : plainName y.cls = true) (hw : ws = Cond.code y cc maxL ret :: ws') (hn : (lg_sl av).length ≤ maxL)
    (body : ∀ (p : Program) (e : Env) (s : State) (m : MethodId) (below : List Frame) (meth : Method) (c : Code) (ls : Array Slot), p.tables.exec = Jvm.exec → c.code = cc → meth.sig.returnType = ret → c.maxLocals = maxL → (∀ w ∈ ws, w.before av.toArray s = true) → s.vm.findClass y.cls = some m.cls → meth.locks = false →
      va_P G vwCl wi s.heap → gE G k sa s → lv_has ls maxL (lv_args 0 av) →
      W p l e (headSpec ws rm).room s m av.toArray below meth c s.heap [] 0 0 (MQ below Qc av.toArray s 0 0 (fun _ => False)) (F0 m 0 ls [])) : Met l y ws rm (gR G k sa av wi) Qc 0 0 (fun _ => False) := by
  refine Met.ofW (cc := cc) (maxL := maxL) (ret := ret) hy hw ?_
  intro p e s m args below meth c s₁ B hml hv
  obtain ⟨rfl, hP, hE⟩ := hv
  have hl := lv_entry av (n := maxL) hn
  have hb := body p e s m below meth c _ B.exec B.bytes B.returns hml (atoms_spec (ws := ws) B.pre) (findClass_of_methodNamed B.named) B.notSynchronized hP hE hl
  rw [lg_entry_eq]
  exact hb
section GZ
variable {p : Program} {l : Launch} {e : Env} {R : Room} {s : State} {m : MethodId} {args : Array Value} {below : List Frame} {meth : Method} {c : Code} {H : Heap} {locs : List Loc} {cells slots mc ms pc : Nat} {ls : Array Slot} {st0 rest : List Value} {Q : State → Prop} {cc : ByteArray} {a : Array Value} {G : va_G} {A : Nat → Prop} {ws wc wr : va_W}
theorem gz_v {S : Type} {post : S → Prop} {wo : S → va_W} (hP : va_P G vwCl ws H) (hD : va_D A ws) (hS : va_S A s.heap H locs) (hA : ∀ q : Nat, s.heap.size ≤ q → A q) (isC isR : List Nat) (hC : isC.map (fun i => ws[i]?) = wc.map some) (hR : isR.map (fun i => ws[i]?) = wr.map some) (hn : va_nd isR = true) (hdis : ∀ i ∈ isR, i ∉ isC)
    (hr : va_Run p l e R s m args below meth c H locs cells slots mc ms (F0 m pc ls st0) rest (va_Qv post (gO G (va_A wc H.size) wo) (va_A wc H.size) a) (va_A wc H.size))
    (kk : ∀ (u : S) (H1 : Heap) (locs1 : List Loc), post u → va_P G vwCl (wr ++ wo u) H1 → va_D A (wr ++ wo u) → va_S A s.heap H1 locs1 → W p l e R s m args below meth c H1 locs1 (cells + mc) (slots + ms) Q (F0 m (pc + 3) ls rest)) : W p l e R s m args below meth c H locs cells slots Q (F0 m pc ls st0) := by
  have hF := va_free (wc := wc) hD hS hA isC hC
  refine va_callv hr hS (fun q _ h => hF q h) hF (fun u t H1 locs1 ht _ hw hB _ hk hS1 => ?_)
  obtain ⟨hP1, hD1⟩ := hB
  rw [ht] at hP1
  obtain ⟨hP2, hD2⟩ := va_join (wr := wr) hP hD isC isR hC hR hn hdis hk hF hP1 hD1
  exact kk u H1 locs1 hw hP2 hD2 hS1
theorem gz_i {S : Type} {post : Int32 → S → Prop} {wo : S → va_W} (hP : va_P G vwCl ws H) (hD : va_D A ws) (hS : va_S A s.heap H locs) (hA : ∀ q : Nat, s.heap.size ≤ q → A q) (isC isR : List Nat) (hC : isC.map (fun i => ws[i]?) = wc.map some) (hR : isR.map (fun i => ws[i]?) = wr.map some) (hn : va_nd isR = true) (hdis : ∀ i ∈ isR, i ∉ isC)
    (hr : va_Run p l e R s m args below meth c H locs cells slots mc ms (F0 m pc ls st0) rest (va_Qi post (gO G (va_A wc H.size) wo) (va_A wc H.size) a) (va_A wc H.size))
    (kk : ∀ (r : Int32) (u : S) (H1 : Heap) (locs1 : List Loc), post r u → va_P G vwCl (wr ++ wo u) H1 → va_D A (wr ++ wo u) → va_S A s.heap H1 locs1 → W p l e R s m args below meth c H1 locs1 (cells + mc) (slots + ms) Q (F0 m (pc + 3) ls (.int r :: rest))) : W p l e R s m args below meth c H locs cells slots Q (F0 m pc ls st0) := by
  have hF := va_free (wc := wc) hD hS hA isC hC
  refine va_calli hr hS (fun q _ h => hF q h) hF (fun r u t H1 locs1 ht _ hw hB _ hk hS1 => ?_)
  obtain ⟨hP1, hD1⟩ := hB
  rw [ht] at hP1
  obtain ⟨hP2, hD2⟩ := va_join (wr := wr) hP hD isC isR hC hR hn hdis hk hF hP1 hD1
  exact kk r u H1 locs1 hw hP2 hD2 hS1
/-- a computed number is that written one -/
theorem gz_ni {x v : Int32} (h : x = v) (kk : W p l e R s m args below meth c H locs cells slots Q (F0 m pc ls (.int v :: rest))) : W p l e R s m args below meth c H locs cells slots Q (F0 m pc ls (.int x :: rest)) := by rw [h]; exact kk
theorem gz_nl {x v : Int64} (h : x = v) (kk : W p l e R s m args below meth c H locs cells slots Q (F0 m pc ls (.long v :: rest))) : W p l e R s m args below meth c H locs cells slots Q (F0 m pc ls (.long x :: rest)) := by rw [h]; exact kk
theorem gz_top {x v : Value} (h : x = v) (kk : W p l e R s m args below meth c H locs cells slots Q (F0 m pc ls (v :: rest))) : W p l e R s m args below meth c H locs cells slots Q (F0 m pc ls (x :: rest)) := by rw [h]; exact kk
end GZ
theorem gz_ra {s : State} {c1 c2 : ClassId} {ty : FieldType} (h1 : va_RA s c1 ty) (h2 : va_RA s c2 ty) : c1 = c2 := by
  cases ty with
  | object C =>
    obtain ⟨_, _, _, _, _, a⟩ := h1
    obtain ⟨_, _, _, _, _, b⟩ := h2
    exact Option.some.inj (a.symm.trans b)
  | _ => exact Option.some.inj ((show s.vm.findClass _ = some c1 from h1).symm.trans (show s.vm.findClass _ = some c2 from h2))
section GZN
variable {p : Program} {l : Launch} {e : Env} {R : Room} {s : State} {m : MethodId} {args : Array Value} {below : List Frame} {meth : Method} {c : Code} {H H0 : Heap} {locs : List Loc} {cells slots pc : Nat} {ls : Array Slot} {rest : List Value} {Q : State → Prop} {cc : ByteArray} {G : va_G} {A : Nat → Prop} {ws : va_W} {k : Nat → ClassId} {sa : Nat → Nat}
theorem gz_newa (hx : p.tables.exec = Jvm.exec) (hb : c.code = cc) {atype : ArrayType} (harr : (Cond.arrayClass (newarray.typeOf atype)).before args s = true) {ty : FieldType} (hty : newarray.typeOf atype = ty) (hE : gE G k sa s) (t0 : Nat) {cA : ClassId} (ht : (gT k)[t0]? = some (cA, ty)) (hP : va_P G vwCl ws H) (hD : va_D A ws) (hS : va_S A H0 H locs) (hA : ∀ q : Nat, H0.size ≤ q → A q)
    {n : Int32} {N' : Nat} {a0 : vp_A} (ha : ∀ cA : ClassId, vp_cell cA a0 = arrV cA N' (fun _ => defaultValue ty)) (hn : ¬ n < 0) (hN : n.toNatClampNeg = N') (hbytes : N' * componentBytes ty ≤ 536870912) (hcells : cells + 1 ≤ R.cells) (hslots : slots + N' ≤ R.slots) (hdg : decode cc pc = .ok (.newarray atype, 2))
    (kk : ∀ (q : Nat) (H1 : Heap), va_P G vwCl (ws ++ [(q, .inl (cA, a0))]) H1 → va_D A (ws ++ [(q, .inl (cA, a0))]) → va_S A H0 H1 locs → W p l e R s m args below meth c H1 locs (cells + 1) (slots + N') Q (F0 m (pc + 2) ls (.ref q :: rest))) : W p l e R s m args below meth c H locs cells slots Q (F0 m pc ls (.int n :: rest)) := by
  refine va_newa hx hb harr hty hE.K hP hD hS hA ha hn hN hbytes hcells hslots hdg (fun q cB H1 hK hP hD hS => ?_)
  have e1 : cB = cA := gz_ra (hK.2 (gT k).length (cB, ty) (by simp)).2 (hE.K.2 t0 _ ht).2
  subst e1
  exact kk q H1 hP hD hS
theorem gz_newq (hx : p.tables.exec = Jvm.exec) (hb : c.code = cc) {own C : String} {index : Nat} (hown : s.vm.findClass own = some m.cls) (hclink : (Cond.classLink own index C).before args s = true) (hover : va_AO C s) (hE : gE G k sa s) (t0 : Nat) {cA : ClassId} (ht : (gT k)[t0]? = some (cA, .object C)) (hP : va_P G vwCl ws H) (hD : va_D A ws) (hS : va_S A H0 H locs) (hA : ∀ q : Nat, H0.size ≤ q → A q)
    {n : Int32} {N' : Nat} (hn : ¬ n < 0) (hN : n.toNatClampNeg = N') (hbytes : N' * 4 ≤ 536870912) (hcells : cells + 1 ≤ R.cells) (hslots : slots + N' ≤ R.slots) (hdg : decode cc pc = .ok (.anewarray index, 3))
    (kk : ∀ (q : Nat) (H1 : Heap), va_P G vwCl (ws ++ [(q, .inl (cA, N', .inr (.inr (.inr (.inr (fun _ => none))))))]) H1 → va_D A (ws ++ [(q, .inl (cA, N', .inr (.inr (.inr (.inr (fun _ => none))))))]) → va_S A H0 H1 locs → W p l e R s m args below meth c H1 locs (cells + 1) (slots + N') Q (F0 m (pc + 3) ls (.ref q :: rest))) : W p l e R s m args below meth c H locs cells slots Q (F0 m pc ls (.int n :: rest)) := by
  refine va_newq hx hb hown hclink hover hE.K hP hD hS hA hn hN hbytes hcells hslots hdg (fun q cB H1 hK hP hD hS => ?_)
  have e1 : cB = cA := gz_ra (hK.2 (gT k).length (cB, .object C) (by simp)).2 (hE.K.2 t0 _ ht).2
  subst e1
  exact kk q H1 hP hD hS
end GZN
theorem gz_lt {a b : Int32} : a < b ↔ a.toInt < b.toInt := Int32.lt_iff_toInt_lt
theorem gz_le {a b : Int32} : a ≤ b ↔ a.toInt ≤ b.toInt := Int32.le_iff_toInt_le
theorem gz_eq {a b : Int32} : a = b ↔ a.toInt = b.toInt := Int32.toInt_inj.symm
theorem gz_out (c : Int32) : c < 0 ∨ (-1 : Int32) < c := by
  rw [gz_lt, gz_lt]
  have h0 : (0 : Int32).toInt = 0 := by decide
  have h1 : (-1 : Int32).toInt = -1 := by decide
  omega
theorem gz_o0 {r a b : Int32} {P : Prop} (h : (r = a ∧ P) ∨ (r = b ∧ ¬ P)) (hp : P) : r = a ∧ P := h.elim id (fun q => absurd hp q.2)
theorem gz_o1 {r a b : Int32} {P : Prop} (h : (r = a ∧ P) ∨ (r = b ∧ ¬ P)) (hp : ¬ P) : r = b ∧ ¬ P := h.elim (fun q => absurd q.2 hp) id
theorem gz_in3 {a : Int32} (h : ¬ (a < 0 ∨ 3 < a)) : a = 0 ∨ a = 1 ∨ a = 2 ∨ a = 3 := by
  rw [gz_lt, gz_lt] at h
  have h0 : (0 : Int32).toInt = 0 := by decide
  have h3 : (3 : Int32).toInt = 3 := by decide
  have hc : a.toInt = 0 ∨ a.toInt = 1 ∨ a.toInt = 2 ∨ a.toInt = 3 := by omega
  rcases hc with h | h | h | h
  · exact Or.inl (Int32.toInt_inj.mp (h.trans (by decide)))
  · exact Or.inr (Or.inl (Int32.toInt_inj.mp (h.trans (by decide))))
  · exact Or.inr (Or.inr (Or.inl (Int32.toInt_inj.mp (h.trans (by decide)))))
  · exact Or.inr (Or.inr (Or.inr (Int32.toInt_inj.mp (h.trans (by decide)))))
theorem gz_inL3 {a : Int32} (h : (0 : Int64) ≤ a.toInt64 ∧ a.toInt64 ≤ 3) : a = 0 ∨ a = 1 ∨ a = 2 ∨ a = 3 := by
  obtain ⟨h1, h2⟩ := h
  rw [Int64.le_iff_toInt_le, Int32.toInt_toInt64] at h1 h2
  have h0 : (0 : Int64).toInt = 0 := by decide
  have h3 : (3 : Int64).toInt = 3 := by decide
  have hc : a.toInt = 0 ∨ a.toInt = 1 ∨ a.toInt = 2 ∨ a.toInt = 3 := by omega
  rcases hc with h | h | h | h
  · exact Or.inl (Int32.toInt_inj.mp (h.trans (by decide)))
  · exact Or.inr (Or.inl (Int32.toInt_inj.mp (h.trans (by decide))))
  · exact Or.inr (Or.inr (Or.inl (Int32.toInt_inj.mp (h.trans (by decide)))))
  · exact Or.inr (Or.inr (Or.inr (Int32.toInt_inj.mp (h.trans (by decide)))))
theorem gz_e1 {a : Int32} (h : a < 0) : ¬ a = 0 := fun e => by rw [e] at h; exact absurd h (by decide)
theorem gz_e2 {a : Int32} (h : ¬ a ≤ 0) : ¬ a = 0 := fun e => by rw [e] at h; exact absurd h (by decide)
theorem gz_e3 {a : Int32} (h : ¬ a < 0) (h2 : a ≤ 0) : a = 0 := by
  rw [gz_lt] at h
  rw [gz_le] at h2
  have h0 : (0 : Int32).toInt = 0 := by decide
  exact Int32.toInt_inj.mp (by omega)
theorem gz_in {i : Int32} {n : Nat} (h : ¬ (i < 0 ∨ n ≤ i.toNatClampNeg)) : vp_in i n := h
def gGood (ws : List Cond) : Prop := ∀ w ∈ ws, (w.onTables && w.keeps) = true ∨ ∃ ty, w = .arrayClass ty
theorem gGood_of {ws : List Cond} (h : ws.all goodWord = true) : gGood ws := fun w hw => good_of_word (List.all_eq_true.mp h w hw)
theorem gGood_nil : gGood [] := fun _ h => absurd h List.not_mem_nil
theorem gGood_app {a b : List Cond} (ha : gGood a) (hb : gGood b) : gGood (a ++ b) := fun w h => (List.mem_append.mp h).elim (ha w) (hb w)
theorem gz_gi {big ws : List Cond} (hm : ∀ w ∈ ws, w ∈ big) (hg : gGood ws) : GoodIn big ws := fun w h => ⟨hm w h, hg w h⟩
theorem gGood_co {c : Cond} {a b : List Cond} (ha : gGood (c :: a)) (hb : gGood b) : gGood (c :: (a ++ b)) := fun w h => (List.mem_cons.mp h).elim (fun e => ha w (List.mem_cons.mpr (Or.inl e))) (fun h => (List.mem_append.mp h).elim (fun q => ha w (List.mem_cons.mpr (Or.inr q))) (hb w))
/-! the worlds that constructors make: an object's cell, and behind it those of what it alone holds; u: where these lie -/
def dayW (k : Nat → ClassId) (a : Nat) (u : Nat → Nat) : va_W := [(a, .inr (2, [.int 0, .int 0, .long 0, .ref (u 0), .ref (u 1), .ref (u 2), .ref (u 3)])), (u 0, .inl (k 0, 6, .inl (fun _ => 0))), (u 1, .inl (k 0, 6, .inl (fun _ => 0))), (u 2, .inl (k 0, 6, .inl (fun _ => 0))), (u 3, .inl (k 0, 6, .inl (fun _ => 0)))]
def ruleW (k : Nat → ClassId) (a : Nat) (u : Nat → Nat) : va_W := [(a, .inr (5, [.ref (u 0), .ref (u 1), .ref (u 2), .ref (u 3), .int 0, .int 0])), (u 0, .inl (k 0, 400, .inl (fun _ => 0))), (u 1, .inl (k 0, 12, .inl (fun _ => 0))), (u 2, .inl (k 0, 12, .inl (fun _ => 0))), (u 3, .inl (k 1, 64, .inr (.inl (fun _ => 0))))]
def landW (k : Nat → ClassId) (a : Nat) (u : Nat → Nat) : va_W := (a, .inr (0, [.int 0, .int 0, .ref (u 0), .ref (u 1), .ref (u 2), .ref (u 3)])) :: (u 0, .inl (k 0, 12, .inl (fun _ => 0))) :: (u 1, .inl (k 0, 12, .inl (fun _ => 0))) :: (u 2, .inl (k 0, 6, .inl (fun _ => 0))) :: dayW k (u 3) (fun i => u (4 + i))
def worldW (k : Nat → ClassId) (a : Nat) (u : Nat → Nat) : va_W := (a, .inr (9, [.ref (u 0), .ref (u 1), .ref (u 2), .ref (u 3), .ref (u 4), .int 0, .int 0, .int (-1), .int 0])) :: (u 2, .inl (k 0, 10, .inl (fun _ => 0))) :: (u 3, .inl (k 0, 10, .inl (fun _ => 0))) :: (u 4, .inl (k 0, 10, .inl (fun _ => 0))) :: (landW k (u 0) (fun i => u (5 + i)) ++ dayW k (u 1) (fun i => u (13 + i)))
def ggW (k : Nat → ClassId) (h0 : Nat) (u : Nat → Nat → Nat) : va_W := ([(h0, .inr (10, [.ref (u 0 0), .ref (u 0 1), .ref (u 0 2), .ref (u 0 3), .ref (u 0 4), .int 0, .ref (u 0 5), .ref (u 0 6), .ref (u 0 7), .ref (u 0 8), .ref (u 0 9), .ref (u 0 10), .ref (u 0 11), .ref (u 0 12), .ref (u 0 13), .int 0])), (u 0 0, .inr (7, [.ref (u 0 14), .int 0])), (u 0 14, .inl (k 0, 400, .inl (fun _ => 0))), (u 0 1, .inr (1, [.ref (u 0 15)])), (u 0 15, .inr (8, [.ref (u 0 0), .int 0, .int 0, .int 0, .int (-1), .int 0])), (u 0 2, .inr (6, [.ref (u 0 16), .ref (u 0 17), .int 0])), (u 0 16, .inr (8, [.ref (u 0 0), .int 0, .int 0, .int 0, .int (-1), .int 0])), (u 0 17, .inr (5, [.ref (u 1 0), .ref (u 1 1), .ref (u 1 2), .ref (u 1 3), .int 0, .int 0])), (u 1 1, .inl (k 0, 12, .inl (fun _ => 0))), (u 1 2, .inl (k 0, 12, .inl (fun _ => 0)))] ++ (landW k (u 0 3) (u 2) ++ ([(u 0 4, .inl (k 3, 6, .inr (.inr (.inr (.inr (va_up (va_up (va_up (va_up (va_up (va_up (fun _ => none) 0 (some (u 0 20))) 1 (some (u 0 21))) 2 (some (u 0 22))) 3 (some (u 0 23))) 4 (some (u 0 24))) 5 (some (u 0 25))))))))] ++ (worldW k (u 0 5) (u 3) ++ ([(u 0 6, .inl (k 4, 4, .inr (.inr (.inr (.inr (va_up (va_up (va_up (va_up (fun _ => none) 0 (some (u 0 30))) 1 (some (u 0 31))) 2 (some (u 0 32))) 3 (some (u 0 33)))))))), (u 0 7, .inr (3, [.ref (u 0 18), .int 0, .int 0]))] ++ (worldW k (u 0 30) (u 4) ++ (worldW k (u 0 31) (u 5) ++ (worldW k (u 0 32) (u 6) ++ (worldW k (u 0 33) (u 7))))))))))
def mmW (k : Nat → ClassId) (h0 : Nat) (u : Nat → Nat) : va_W := [(h0, .inr (11, [.ref (u 0), .int 0, .int 0, .ref (u 3), .ref (u 4), .ref (u 5), .ref (u 6), .ref (u 7), .int 0, .int 0, .int 0, .int 0, .int 0, .int 0, .int 0, .ref (u 15), .int 0, .ref (u 17), .int 0, .ref (u 19), .ref (u 20), .int (-1), .int 0, .ref (u 23), .int (-1), .int (-1), .int (-1), .int 0, .int (-1), .int 0, .ref (u 30), .int 0, .ref (u 32), .int 0, .int 0, .ref (u 35), .ref (u 36), .ref (u 37), .ref (u 38), .long 0, .ref (u 40), .ref (u 41), .ref (u 42), .ref (u 43)])), (u 0, .inl (k 6, 400, .inl (fun _ => 0))), (u 3, .inl (k 0, 2400, .inl (fun _ => 0))), (u 4, .inl (k 0, 7, .inl (fun _ => 0))), (u 5, .inl (k 0, 288, .inl (fun _ => 0))), (u 6, .inl (k 0, 6, .inl (fun _ => 0))), (u 7, .inl (k 0, 175, .inl (fun _ => 0))), (u 15, .inl (k 0, 400, .inl (fun _ => 0))), (u 17, .inl (k 1, 64, .inr (.inl (fun _ => 0)))), (u 19, .inl (k 1, 12, .inr (.inl (fun _ => 0)))), (u 20, .inl (k 0, 206, .inl (fun _ => 0))), (u 23, .inl (k 0, 6, .inl (fun _ => 0))), (u 30, .inl (k 0, 1480, .inl (fun _ => 0))), (u 32, .inl (k 0, 74, .inl (fun _ => 0))), (u 35, .inl (k 0, 32, .inl (fun _ => 0))), (u 36, .inl (k 0, 366, .inl (fun _ => 0))), (u 37, .inl (k 2, 7, .inl (fun _ => 0))), (u 38, .inl (k 0, 42, .inl (fun _ => 0))), (u 40, .inl (k 0, 824, .inl (fun _ => 0))), (u 41, .inl (k 0, 4, .inl (fun _ => 0))), (u 42, .inl (k 0, 4, .inl (fun _ => 0))), (u 43, .inl (k 2, 4, .inl (fun _ => 0)))]
theorem zd_0 : ∀ j, j < 6 → defaultValue (tyX0 j) = vp_V [.int 0, .int 0, .null, .null, .null, .null] j := fun j hj => match j, hj with
  | 0, _ => rfl
  | 1, _ => rfl
  | 2, _ => rfl
  | 3, _ => rfl
  | 4, _ => rfl
  | 5, _ => rfl
  | j + 6, h => absurd h (by omega)
theorem zd_1 : ∀ j, j < 1 → defaultValue (tyX1 j) = vp_V [.null] j := fun j hj => match j, hj with
  | 0, _ => rfl
  | j + 1, h => absurd h (by omega)
theorem zd_2 : ∀ j, j < 7 → defaultValue (tyX2 j) = vp_V [.int 0, .int 0, .long 0, .null, .null, .null, .null] j := fun j hj => match j, hj with
  | 0, _ => rfl
  | 1, _ => rfl
  | 2, _ => rfl
  | 3, _ => rfl
  | 4, _ => rfl
  | 5, _ => rfl
  | 6, _ => rfl
  | j + 7, h => absurd h (by omega)
theorem zd_3 : ∀ j, j < 3 → defaultValue (tyX3 j) = vp_V [.null, .int 0, .int 0] j := fun j hj => match j, hj with
  | 0, _ => rfl
  | 1, _ => rfl
  | 2, _ => rfl
  | j + 3, h => absurd h (by omega)
theorem zd_4 : ∀ j, j < 10 → defaultValue (tyX4 j) = vp_V [.null, .null, .null, .null, .int 0, .int 0, .int 0, .int 0, .int 0, .int 0] j := fun j hj => match j, hj with
  | 0, _ => rfl
  | 1, _ => rfl
  | 2, _ => rfl
  | 3, _ => rfl
  | 4, _ => rfl
  | 5, _ => rfl
  | 6, _ => rfl
  | 7, _ => rfl
  | 8, _ => rfl
  | 9, _ => rfl
  | j + 10, h => absurd h (by omega)
theorem zd_5 : ∀ j, j < 6 → defaultValue (tyX5 j) = vp_V [.null, .null, .null, .null, .int 0, .int 0] j := fun j hj => match j, hj with
  | 0, _ => rfl
  | 1, _ => rfl
  | 2, _ => rfl
  | 3, _ => rfl
  | 4, _ => rfl
  | 5, _ => rfl
  | j + 6, h => absurd h (by omega)
theorem zd_6 : ∀ j, j < 3 → defaultValue (tyX6 j) = vp_V [.null, .null, .int 0] j := fun j hj => match j, hj with
  | 0, _ => rfl
  | 1, _ => rfl
  | 2, _ => rfl
  | j + 3, h => absurd h (by omega)
theorem zd_7 : ∀ j, j < 2 → defaultValue (tyX7 j) = vp_V [.null, .int 0] j := fun j hj => match j, hj with
  | 0, _ => rfl
  | 1, _ => rfl
  | j + 2, h => absurd h (by omega)
theorem zd_8 : ∀ j, j < 6 → defaultValue (tyX8 j) = vp_V [.null, .int 0, .int 0, .int 0, .int 0, .int 0] j := fun j hj => match j, hj with
  | 0, _ => rfl
  | 1, _ => rfl
  | 2, _ => rfl
  | 3, _ => rfl
  | 4, _ => rfl
  | 5, _ => rfl
  | j + 6, h => absurd h (by omega)
theorem zd_9 : ∀ j, j < 9 → defaultValue (tyX9 j) = vp_V [.null, .null, .null, .null, .null, .int 0, .int 0, .int 0, .int 0] j := fun j hj => match j, hj with
  | 0, _ => rfl
  | 1, _ => rfl
  | 2, _ => rfl
  | 3, _ => rfl
  | 4, _ => rfl
  | 5, _ => rfl
  | 6, _ => rfl
  | 7, _ => rfl
  | 8, _ => rfl
  | j + 9, h => absurd h (by omega)
theorem zd_10 : ∀ j, j < 16 → defaultValue (tyX10 j) = vp_V [.null, .null, .null, .null, .null, .int 0, .null, .null, .null, .null, .null, .null, .null, .null, .null, .int 0] j := fun j hj => match j, hj with
  | 0, _ => rfl
  | 1, _ => rfl
  | 2, _ => rfl
  | 3, _ => rfl
  | 4, _ => rfl
  | 5, _ => rfl
  | 6, _ => rfl
  | 7, _ => rfl
  | 8, _ => rfl
  | 9, _ => rfl
  | 10, _ => rfl
  | 11, _ => rfl
  | 12, _ => rfl
  | 13, _ => rfl
  | 14, _ => rfl
  | 15, _ => rfl
  | j + 16, h => absurd h (by omega)
theorem zd_11 : ∀ j, j < 44 → defaultValue (tyX11 j) = vp_V [.null, .int 0, .int 0, .null, .null, .null, .null, .null, .int 0, .int 0, .int 0, .int 0, .int 0, .int 0, .int 0, .null, .int 0, .null, .int 0, .null, .null, .int 0, .int 0, .null, .int 0, .int 0, .int 0, .int 0, .int 0, .int 0, .null, .int 0, .null, .int 0, .int 0, .null, .null, .null, .null, .long 0, .null, .null, .null, .null] j := fun j hj => match j, hj with
  | 0, _ => rfl
  | 1, _ => rfl
  | 2, _ => rfl
  | 3, _ => rfl
  | 4, _ => rfl
  | 5, _ => rfl
  | 6, _ => rfl
  | 7, _ => rfl
  | 8, _ => rfl
  | 9, _ => rfl
  | 10, _ => rfl
  | 11, _ => rfl
  | 12, _ => rfl
  | 13, _ => rfl
  | 14, _ => rfl
  | 15, _ => rfl
  | 16, _ => rfl
  | 17, _ => rfl
  | 18, _ => rfl
  | 19, _ => rfl
  | 20, _ => rfl
  | 21, _ => rfl
  | 22, _ => rfl
  | 23, _ => rfl
  | 24, _ => rfl
  | 25, _ => rfl
  | 26, _ => rfl
  | 27, _ => rfl
  | 28, _ => rfl
  | 29, _ => rfl
  | 30, _ => rfl
  | 31, _ => rfl
  | 32, _ => rfl
  | 33, _ => rfl
  | 34, _ => rfl
  | 35, _ => rfl
  | 36, _ => rfl
  | 37, _ => rfl
  | 38, _ => rfl
  | 39, _ => rfl
  | 40, _ => rfl
  | 41, _ => rfl
  | 42, _ => rfl
  | 43, _ => rfl
  | j + 44, h => absurd h (by omega)
theorem gz_k_0 : (0 : Int32).toInt = 0 := by decide
theorem gz_tab_0_14 (x : Int32) : (x.toInt < 0 ∨ 14 < x.toInt) ∨ x = 0 ∨ x = 1 ∨ x = 2 ∨ x = 3 ∨ x = 4 ∨ x = 5 ∨ x = 6 ∨ x = 7 ∨ x = 8 ∨ x = 9 ∨ x = 10 ∨ x = 11 ∨ x = 12 ∨ x = 13 ∨ x = 14 := by
  by_cases h : x.toInt < 0 ∨ 14 < x.toInt
  · exact Or.inl h
  · refine Or.inr ?_
    have hc : x.toInt = 0 ∨ x.toInt = 1 ∨ x.toInt = 2 ∨ x.toInt = 3 ∨ x.toInt = 4 ∨ x.toInt = 5 ∨ x.toInt = 6 ∨ x.toInt = 7 ∨ x.toInt = 8 ∨ x.toInt = 9 ∨ x.toInt = 10 ∨ x.toInt = 11 ∨ x.toInt = 12 ∨ x.toInt = 13 ∨ x.toInt = 14 := by omega
    rcases hc with h | h | h | h | h | h | h | h | h | h | h | h | h | h | h
    · exact (Or.inl (Int32.toInt_inj.mp (h.trans (by decide))))
    · exact (Or.inr (Or.inl (Int32.toInt_inj.mp (h.trans (by decide)))))
    · exact (Or.inr (Or.inr (Or.inl (Int32.toInt_inj.mp (h.trans (by decide))))))
    · exact (Or.inr (Or.inr (Or.inr (Or.inl (Int32.toInt_inj.mp (h.trans (by decide)))))))
    · exact (Or.inr (Or.inr (Or.inr (Or.inr (Or.inl (Int32.toInt_inj.mp (h.trans (by decide))))))))
    · exact (Or.inr (Or.inr (Or.inr (Or.inr (Or.inr (Or.inl (Int32.toInt_inj.mp (h.trans (by decide)))))))))
    · exact (Or.inr (Or.inr (Or.inr (Or.inr (Or.inr (Or.inr (Or.inl (Int32.toInt_inj.mp (h.trans (by decide))))))))))
    · exact (Or.inr (Or.inr (Or.inr (Or.inr (Or.inr (Or.inr (Or.inr (Or.inl (Int32.toInt_inj.mp (h.trans (by decide)))))))))))
    · exact (Or.inr (Or.inr (Or.inr (Or.inr (Or.inr (Or.inr (Or.inr (Or.inr (Or.inl (Int32.toInt_inj.mp (h.trans (by decide))))))))))))
    · exact (Or.inr (Or.inr (Or.inr (Or.inr (Or.inr (Or.inr (Or.inr (Or.inr (Or.inr (Or.inl (Int32.toInt_inj.mp (h.trans (by decide)))))))))))))
    · exact (Or.inr (Or.inr (Or.inr (Or.inr (Or.inr (Or.inr (Or.inr (Or.inr (Or.inr (Or.inr (Or.inl (Int32.toInt_inj.mp (h.trans (by decide))))))))))))))
    · exact (Or.inr (Or.inr (Or.inr (Or.inr (Or.inr (Or.inr (Or.inr (Or.inr (Or.inr (Or.inr (Or.inr (Or.inl (Int32.toInt_inj.mp (h.trans (by decide)))))))))))))))
    · exact (Or.inr (Or.inr (Or.inr (Or.inr (Or.inr (Or.inr (Or.inr (Or.inr (Or.inr (Or.inr (Or.inr (Or.inr (Or.inl (Int32.toInt_inj.mp (h.trans (by decide))))))))))))))))
    · exact (Or.inr (Or.inr (Or.inr (Or.inr (Or.inr (Or.inr (Or.inr (Or.inr (Or.inr (Or.inr (Or.inr (Or.inr (Or.inr (Or.inl (Int32.toInt_inj.mp (h.trans (by decide)))))))))))))))))
    · exact (Or.inr (Or.inr (Or.inr (Or.inr (Or.inr (Or.inr (Or.inr (Or.inr (Or.inr (Or.inr (Or.inr (Or.inr (Or.inr (Or.inr (Int32.toInt_inj.mp (h.trans (by decide)))))))))))))))))
theorem gz_tab_0_34 (x : Int32) : (x.toInt < 0 ∨ 34 < x.toInt) ∨ x = 0 ∨ x = 1 ∨ x = 2 ∨ x = 3 ∨ x = 4 ∨ x = 5 ∨ x = 6 ∨ x = 7 ∨ x = 8 ∨ x = 9 ∨ x = 10 ∨ x = 11 ∨ x = 12 ∨ x = 13 ∨ x = 14 ∨ x = 15 ∨ x = 16 ∨ x = 17 ∨ x = 18 ∨ x = 19 ∨ x = 20 ∨ x = 21 ∨ x = 22 ∨ x = 23 ∨ x = 24 ∨ x = 25 ∨ x = 26 ∨ x = 27 ∨ x = 28 ∨ x = 29 ∨ x = 30 ∨ x = 31 ∨ x = 32 ∨ x = 33 ∨ x = 34 := by
  by_cases h : x.toInt < 0 ∨ 34 < x.toInt
  · exact Or.inl h
  · refine Or.inr ?_
    have hc : x.toInt = 0 ∨ x.toInt = 1 ∨ x.toInt = 2 ∨ x.toInt = 3 ∨ x.toInt = 4 ∨ x.toInt = 5 ∨ x.toInt = 6 ∨ x.toInt = 7 ∨ x.toInt = 8 ∨ x.toInt = 9 ∨ x.toInt = 10 ∨ x.toInt = 11 ∨ x.toInt = 12 ∨ x.toInt = 13 ∨ x.toInt = 14 ∨ x.toInt = 15 ∨ x.toInt = 16 ∨ x.toInt = 17 ∨ x.toInt = 18 ∨ x.toInt = 19 ∨ x.toInt = 20 ∨ x.toInt = 21 ∨ x.toInt = 22 ∨ x.toInt = 23 ∨ x.toInt = 24 ∨ x.toInt = 25 ∨ x.toInt = 26 ∨ x.toInt = 27 ∨ x.toInt = 28 ∨ x.toInt = 29 ∨ x.toInt = 30 ∨ x.toInt = 31 ∨ x.toInt = 32 ∨ x.toInt = 33 ∨ x.toInt = 34 := by omega
    rcases hc with h | h | h | h | h | h | h | h | h | h | h | h | h | h | h | h | h | h | h | h | h | h | h | h | h | h | h | h | h | h | h | h | h | h | h
    · exact (Or.inl (Int32.toInt_inj.mp (h.trans (by decide))))
    · exact (Or.inr (Or.inl (Int32.toInt_inj.mp (h.trans (by decide)))))
    · exact (Or.inr (Or.inr (Or.inl (Int32.toInt_inj.mp (h.trans (by decide))))))
    · exact (Or.inr (Or.inr (Or.inr (Or.inl (Int32.toInt_inj.mp (h.trans (by decide)))))))
    · exact (Or.inr (Or.inr (Or.inr (Or.inr (Or.inl (Int32.toInt_inj.mp (h.trans (by decide))))))))
    · exact (Or.inr (Or.inr (Or.inr (Or.inr (Or.inr (Or.inl (Int32.toInt_inj.mp (h.trans (by decide)))))))))
    · exact (Or.inr (Or.inr (Or.inr (Or.inr (Or.inr (Or.inr (Or.inl (Int32.toInt_inj.mp (h.trans (by decide))))))))))
    · exact (Or.inr (Or.inr (Or.inr (Or.inr (Or.inr (Or.inr (Or.inr (Or.inl (Int32.toInt_inj.mp (h.trans (by decide)))))))))))
    · exact (Or.inr (Or.inr (Or.inr (Or.inr (Or.inr (Or.inr (Or.inr (Or.inr (Or.inl (Int32.toInt_inj.mp (h.trans (by decide))))))))))))
    · exact (Or.inr (Or.inr (Or.inr (Or.inr (Or.inr (Or.inr (Or.inr (Or.inr (Or.inr (Or.inl (Int32.toInt_inj.mp (h.trans (by decide)))))))))))))
    · exact (Or.inr (Or.inr (Or.inr (Or.inr (Or.inr (Or.inr (Or.inr (Or.inr (Or.inr (Or.inr (Or.inl (Int32.toInt_inj.mp (h.trans (by decide))))))))))))))
    · exact (Or.inr (Or.inr (Or.inr (Or.inr (Or.inr (Or.inr (Or.inr (Or.inr (Or.inr (Or.inr (Or.inr (Or.inl (Int32.toInt_inj.mp (h.trans (by decide)))))))))))))))
    · exact (Or.inr (Or.inr (Or.inr (Or.inr (Or.inr (Or.inr (Or.inr (Or.inr (Or.inr (Or.inr (Or.inr (Or.inr (Or.inl (Int32.toInt_inj.mp (h.trans (by decide))))))))))))))))
    · exact (Or.inr (Or.inr (Or.inr (Or.inr (Or.inr (Or.inr (Or.inr (Or.inr (Or.inr (Or.inr (Or.inr (Or.inr (Or.inr (Or.inl (Int32.toInt_inj.mp (h.trans (by decide)))))))))))))))))
    · exact (Or.inr (Or.inr (Or.inr (Or.inr (Or.inr (Or.inr (Or.inr (Or.inr (Or.inr (Or.inr (Or.inr (Or.inr (Or.inr (Or.inr (Or.inl (Int32.toInt_inj.mp (h.trans (by decide))))))))))))))))))
    · exact (Or.inr (Or.inr (Or.inr (Or.inr (Or.inr (Or.inr (Or.inr (Or.inr (Or.inr (Or.inr (Or.inr (Or.inr (Or.inr (Or.inr (Or.inr (Or.inl (Int32.toInt_inj.mp (h.trans (by decide)))))))))))))))))))
    · exact (Or.inr (Or.inr (Or.inr (Or.inr (Or.inr (Or.inr (Or.inr (Or.inr (Or.inr (Or.inr (Or.inr (Or.inr (Or.inr (Or.inr (Or.inr (Or.inr (Or.inl (Int32.toInt_inj.mp (h.trans (by decide))))))))))))))))))))
    · exact (Or.inr (Or.inr (Or.inr (Or.inr (Or.inr (Or.inr (Or.inr (Or.inr (Or.inr (Or.inr (Or.inr (Or.inr (Or.inr (Or.inr (Or.inr (Or.inr (Or.inr (Or.inl (Int32.toInt_inj.mp (h.trans (by decide)))))))))))))))))))))
    · exact (Or.inr (Or.inr (Or.inr (Or.inr (Or.inr (Or.inr (Or.inr (Or.inr (Or.inr (Or.inr (Or.inr (Or.inr (Or.inr (Or.inr (Or.inr (Or.inr (Or.inr (Or.inr (Or.inl (Int32.toInt_inj.mp (h.trans (by decide))))))))))))))))))))))
    · exact (Or.inr (Or.inr (Or.inr (Or.inr (Or.inr (Or.inr (Or.inr (Or.inr (Or.inr (Or.inr (Or.inr (Or.inr (Or.inr (Or.inr (Or.inr (Or.inr (Or.inr (Or.inr (Or.inr (Or.inl (Int32.toInt_inj.mp (h.trans (by decide)))))))))))))))))))))))
    · exact (Or.inr (Or.inr (Or.inr (Or.inr (Or.inr (Or.inr (Or.inr (Or.inr (Or.inr (Or.inr (Or.inr (Or.inr (Or.inr (Or.inr (Or.inr (Or.inr (Or.inr (Or.inr (Or.inr (Or.inr (Or.inl (Int32.toInt_inj.mp (h.trans (by decide))))))))))))))))))))))))
    · exact (Or.inr (Or.inr (Or.inr (Or.inr (Or.inr (Or.inr (Or.inr (Or.inr (Or.inr (Or.inr (Or.inr (Or.inr (Or.inr (Or.inr (Or.inr (Or.inr (Or.inr (Or.inr (Or.inr (Or.inr (Or.inr (Or.inl (Int32.toInt_inj.mp (h.trans (by decide)))))))))))))))))))))))))
    · exact (Or.inr (Or.inr (Or.inr (Or.inr (Or.inr (Or.inr (Or.inr (Or.inr (Or.inr (Or.inr (Or.inr (Or.inr (Or.inr (Or.inr (Or.inr (Or.inr (Or.inr (Or.inr (Or.inr (Or.inr (Or.inr (Or.inr (Or.inl (Int32.toInt_inj.mp (h.trans (by decide))))))))))))))))))))))))))
    · exact (Or.inr (Or.inr (Or.inr (Or.inr (Or.inr (Or.inr (Or.inr (Or.inr (Or.inr (Or.inr (Or.inr (Or.inr (Or.inr (Or.inr (Or.inr (Or.inr (Or.inr (Or.inr (Or.inr (Or.inr (Or.inr (Or.inr (Or.inr (Or.inl (Int32.toInt_inj.mp (h.trans (by decide)))))))))))))))))))))))))))
    · exact (Or.inr (Or.inr (Or.inr (Or.inr (Or.inr (Or.inr (Or.inr (Or.inr (Or.inr (Or.inr (Or.inr (Or.inr (Or.inr (Or.inr (Or.inr (Or.inr (Or.inr (Or.inr (Or.inr (Or.inr (Or.inr (Or.inr (Or.inr (Or.inr (Or.inl (Int32.toInt_inj.mp (h.trans (by decide))))))))))))))))))))))))))))
    · exact (Or.inr (Or.inr (Or.inr (Or.inr (Or.inr (Or.inr (Or.inr (Or.inr (Or.inr (Or.inr (Or.inr (Or.inr (Or.inr (Or.inr (Or.inr (Or.inr (Or.inr (Or.inr (Or.inr (Or.inr (Or.inr (Or.inr (Or.inr (Or.inr (Or.inr (Or.inl (Int32.toInt_inj.mp (h.trans (by decide)))))))))))))))))))))))))))))
    · exact (Or.inr (Or.inr (Or.inr (Or.inr (Or.inr (Or.inr (Or.inr (Or.inr (Or.inr (Or.inr (Or.inr (Or.inr (Or.inr (Or.inr (Or.inr (Or.inr (Or.inr (Or.inr (Or.inr (Or.inr (Or.inr (Or.inr (Or.inr (Or.inr (Or.inr (Or.inr (Or.inl (Int32.toInt_inj.mp (h.trans (by decide))))))))))))))))))))))))))))))
    · exact (Or.inr (Or.inr (Or.inr (Or.inr (Or.inr (Or.inr (Or.inr (Or.inr (Or.inr (Or.inr (Or.inr (Or.inr (Or.inr (Or.inr (Or.inr (Or.inr (Or.inr (Or.inr (Or.inr (Or.inr (Or.inr (Or.inr (Or.inr (Or.inr (Or.inr (Or.inr (Or.inr (Or.inl (Int32.toInt_inj.mp (h.trans (by decide)))))))))))))))))))))))))))))))
    · exact (Or.inr (Or.inr (Or.inr (Or.inr (Or.inr (Or.inr (Or.inr (Or.inr (Or.inr (Or.inr (Or.inr (Or.inr (Or.inr (Or.inr (Or.inr (Or.inr (Or.inr (Or.inr (Or.inr (Or.inr (Or.inr (Or.inr (Or.inr (Or.inr (Or.inr (Or.inr (Or.inr (Or.inr (Or.inl (Int32.toInt_inj.mp (h.trans (by decide))))))))))))))))))))))))))))))))
    · exact (Or.inr (Or.inr (Or.inr (Or.inr (Or.inr (Or.inr (Or.inr (Or.inr (Or.inr (Or.inr (Or.inr (Or.inr (Or.inr (Or.inr (Or.inr (Or.inr (Or.inr (Or.inr (Or.inr (Or.inr (Or.inr (Or.inr (Or.inr (Or.inr (Or.inr (Or.inr (Or.inr (Or.inr (Or.inr (Or.inl (Int32.toInt_inj.mp (h.trans (by decide)))))))))))))))))))))))))))))))))
    · exact (Or.inr (Or.inr (Or.inr (Or.inr (Or.inr (Or.inr (Or.inr (Or.inr (Or.inr (Or.inr (Or.inr (Or.inr (Or.inr (Or.inr (Or.inr (Or.inr (Or.inr (Or.inr (Or.inr (Or.inr (Or.inr (Or.inr (Or.inr (Or.inr (Or.inr (Or.inr (Or.inr (Or.inr (Or.inr (Or.inr (Or.inl (Int32.toInt_inj.mp (h.trans (by decide))))))))))))))))))))))))))))))))))
    · exact (Or.inr (Or.inr (Or.inr (Or.inr (Or.inr (Or.inr (Or.inr (Or.inr (Or.inr (Or.inr (Or.inr (Or.inr (Or.inr (Or.inr (Or.inr (Or.inr (Or.inr (Or.inr (Or.inr (Or.inr (Or.inr (Or.inr (Or.inr (Or.inr (Or.inr (Or.inr (Or.inr (Or.inr (Or.inr (Or.inr (Or.inr (Or.inl (Int32.toInt_inj.mp (h.trans (by decide)))))))))))))))))))))))))))))))))))
    · exact (Or.inr (Or.inr (Or.inr (Or.inr (Or.inr (Or.inr (Or.inr (Or.inr (Or.inr (Or.inr (Or.inr (Or.inr (Or.inr (Or.inr (Or.inr (Or.inr (Or.inr (Or.inr (Or.inr (Or.inr (Or.inr (Or.inr (Or.inr (Or.inr (Or.inr (Or.inr (Or.inr (Or.inr (Or.inr (Or.inr (Or.inr (Or.inr (Or.inl (Int32.toInt_inj.mp (h.trans (by decide))))))))))))))))))))))))))))))))))))
    · exact (Or.inr (Or.inr (Or.inr (Or.inr (Or.inr (Or.inr (Or.inr (Or.inr (Or.inr (Or.inr (Or.inr (Or.inr (Or.inr (Or.inr (Or.inr (Or.inr (Or.inr (Or.inr (Or.inr (Or.inr (Or.inr (Or.inr (Or.inr (Or.inr (Or.inr (Or.inr (Or.inr (Or.inr (Or.inr (Or.inr (Or.inr (Or.inr (Or.inr (Or.inl (Int32.toInt_inj.mp (h.trans (by decide)))))))))))))))))))))))))))))))))))))
    · exact (Or.inr (Or.inr (Or.inr (Or.inr (Or.inr (Or.inr (Or.inr (Or.inr (Or.inr (Or.inr (Or.inr (Or.inr (Or.inr (Or.inr (Or.inr (Or.inr (Or.inr (Or.inr (Or.inr (Or.inr (Or.inr (Or.inr (Or.inr (Or.inr (Or.inr (Or.inr (Or.inr (Or.inr (Or.inr (Or.inr (Or.inr (Or.inr (Or.inr (Or.inr (Int32.toInt_inj.mp (h.trans (by decide)))))))))))))))))))))))))))))))))))))
