/-! What all contracts share: the tables' words that ride beside the worlds, starts and ends of contracts, calls with the frame rule -/
abbrev gT (k : Nat → ClassId) : List (ClassId × FieldType) := [(k 0, .int), (k 1, .long), (k 2, .boolean), (k 3, .object "GossamerGate$Rule"), (k 4, .object "GossamerGate$World"), (k 5, .object "GossamerGate$Day"), (k 6, .byte)]
def gz_N : List (String × Nat × MethodName) := [(RX10, 34, yX0_init), (RX10, 51, yX9_init), (RX10, 9, yX7_init), (RX10, 98, yX5_init), (RX0, 30, yX2_init), (RX3, 22, yX2_init), (RX4, 159, yX10_outside), (RX4, 19, yX2_init), (RX6, 11, yX5_init), (RX8, 66, yX10_outside), (RX9, 11, yX0_init), (RX9, 20, yX2_init)]
def gz_O : List String := ["GossamerGate$Rule", "GossamerGate$World", "GossamerGate$Day"]
def gz_S : List (String × Nat × String) := [(RX1, 40, "country wind person gate"), (RX6, 37, "go"), (RX6, 59, "if"), (RX6, 80, "and"), (RX6, 82, "or"), (RX6, 89, "not"), (RX6, 120, "person row column thread heavy way force next air here tangled hour")]
def gE (G : va_G) (k : Nat → ClassId) (sa : Nat → Nat) (U : State) : Prop :=
  va_K G vwCl (gT k) U ∧ (∀ q ∈ gz_N, va_Nw (.methodLinkNest q.1 q.2.1 q.2.2 RX10) U) ∧ (∀ q ∈ gz_O, va_AO q U) ∧ ∀ (i : Nat) (q : String × Nat × String), gz_S[i]? = some q → vk_R q.1 q.2.1 q.2.2 (sa i) U
theorem gE.warm {G : va_G} {k : Nat → ClassId} {sa : Nat → Nat} {s U : State} (hW : s.WarmedH U.vm) (h : gE G k sa s) : gE G k sa U :=
  ⟨va_K.moved hW.alike h.1, fun q hq => va_Nw.warmM hW (h.2.1 q hq), fun q hq => va_AO.moved hW.alike (h.2.2.1 q hq), fun i q hq => vk_R.warm hW (h.2.2.2 i q hq)⟩
theorem gE.call {G : va_G} {k : Nat → ClassId} {sa : Nat → Nat} {U : State} {g : JFrame} {mk : MethodId} {a : Array Value} (h : gE G k sa U) : gE G k sa (U.calling g mk a) :=
  ⟨va_K.moved (u := U) (U := U.calling g mk a) (Vm.Alike.refl U.vm) h.1, fun q hq => va_Nw.same rfl (u := U) rfl (h.2.1 q hq), fun q hq => va_AO.moved (u := U) (U := U.calling g mk a) (Vm.Alike.refl U.vm) (h.2.2.1 q hq), fun i q hq => vk_R.same (u := U) rfl (h.2.2.2 i q hq)⟩
theorem gE.K {G : va_G} {k : Nat → ClassId} {sa : Nat → Nat} {U : State} (h : gE G k sa U) : va_K G vwCl (gT k) U := h.1
theorem gE.N {G : va_G} {k : Nat → ClassId} {sa : Nat → Nat} {U : State} (h : gE G k sa U) (i : Nat) {a : String} {n : Nat} {y : MethodName} (hi : gz_N[i]? = some (a, n, y)) : va_Nw (.methodLinkNest a n y RX10) U := h.2.1 _ (List.mem_of_getElem? hi)
theorem gE.O {G : va_G} {k : Nat → ClassId} {sa : Nat → Nat} {U : State} (h : gE G k sa U) (i : Nat) {a : String} (hi : gz_O[i]? = some a) : va_AO a U := h.2.2.1 _ (List.mem_of_getElem? hi)
theorem gE.S {G : va_G} {k : Nat → ClassId} {sa : Nat → Nat} {U : State} (h : gE G k sa U) (i : Nat) {a t : String} {n : Nat} (hi : gz_S[i]? = some (a, n, t)) : vk_R a n t (sa i) U := h.2.2.2 i _ hi
def gz_len : List Nat := [24, 2, 2, 3, 2, 3, 67]
def gz_byt : List (List Int32) := [[99, 111, 117, 110, 116, 114, 121, 32, 119, 105, 110, 100, 32, 112, 101, 114, 115, 111, 110, 32, 103, 97, 116, 101], [103, 111], [105, 102], [97, 110, 100], [111, 114], [110, 111, 116], [112, 101, 114, 115, 111, 110, 32, 114, 111, 119, 32, 99, 111, 108, 117, 109, 110, 32, 116, 104, 114, 101, 97, 100, 32, 104, 101, 97, 118, 121, 32, 119, 97, 121, 32, 102, 111, 114, 99, 101, 32, 110, 101, 120, 116, 32, 97, 105, 114, 32, 104, 101, 114, 101, 32, 116, 97, 110, 103, 108, 101, 100, 32, 104, 111, 117, 114]]
/-- the String constants and the two statics that the JDK's text methods read: old cells, which nobody changes; sa i: a text, sa (100 + i): its bytes -/
def gZ (sa : Nat → Nat) (A : Nat → Prop) (U : State) (H : Heap) : Prop := vk_S 7 gz_len gz_byt sa (fun i => sa (100 + i)) A U H ∧ va_Z "java/lang/String" "COMPACT_STRINGS" "Z" (.int 1) A U H ∧ va_Zq "jdk/internal/util/Preconditions" "SIOOBE_FORMATTER" "Ljava/util/function/BiFunction;" A U H
theorem gZ.moved {sa : Nat → Nat} {A : Nat → Prop} {u U : State} {H : Heap} (hvm : u.vm.Alike U.vm) (h : gZ sa A u H) : gZ sa A U H := ⟨vk_S.moved hvm h.1, va_Z.moved hvm h.2.1, va_Zq.moved hvm h.2.2⟩
theorem gZ.kept {sa : Nat → Nat} {A : Nat → Prop} {U : State} {H H1 : Heap} (h : gZ sa A U H) (hq : ∀ a : Nat, a < H.size → ¬ A a → H1[a]? = H[a]?) : gZ sa A U H1 := ⟨h.1.kept hq, h.2.1.kept hq, h.2.2.kept hq⟩
theorem gZ.narrow {sa : Nat → Nat} {A B : Nat → Prop} {U : State} {H : Heap} (h : gZ sa A U H) (hAB : ∀ q, B q → A q) : gZ sa B U H := ⟨h.1.narrow hAB, h.2.1.narrow hAB, h.2.2.narrow hAB⟩
/-- a contract's start: a world of its own, which it may change -/
def gP (G : va_G) (k : Nat → ClassId) (sa : Nat → Nat) (av : List Value) (ws : va_W) (sz : Nat) : Array Value → State → Prop := va_Pc av (fun U => U.heap.size = sz ∧ va_P G vwCl ws U.heap ∧ gE G k sa U ∧ va_D (fun _ => True) ws ∧ gZ sa (va_A ws sz) U U.heap)
/-- a contract's start: a world that is looked at alone -/
def gR (G : va_G) (k : Nat → ClassId) (sa : Nat → Nat) (av : List Value) (ws : va_W) : Array Value → State → Prop := va_Pc av (fun U => va_P G vwCl ws U.heap ∧ gE G k sa U ∧ gZ sa (fun _ => False) U U.heap)
abbrev gO {S : Type} (G : va_G) (A : Nat → Prop) (wo : S → va_W) : S → State → Prop := fun u t => va_P G vwCl (wo u) t.heap ∧ va_D A (wo u)
theorem gP.bl {G : va_G} {k : Nat → ClassId} {sa : Nat → Nat} {av : List Value} {ws : va_W} {sz : Nat} : FrameBlind (gP G k sa av ws sz) := fun _ _ _ _ q => by
  obtain ⟨q0, q1, q2, q3, q4, q5⟩ := q
  exact ⟨q0, q1, q2, q3.call, q4, q5.moved (Vm.Alike.refl _)⟩
theorem gR.bl {G : va_G} {k : Nat → ClassId} {sa : Nat → Nat} {av : List Value} {ws : va_W} : FrameBlind (gR G k sa av ws) := fun _ _ _ _ q => by
  obtain ⟨q0, q1, q2, q3⟩ := q
  exact ⟨q0, q1, q2.call, q3.moved (Vm.Alike.refl _)⟩
theorem gz_pick {ws wc : va_W} {isC : List Nat} (hC : isC.map (fun i => ws[i]?) = wc.map some) : isC.filterMap (fun i => ws[i]?) = wc := by
  have h : isC.filterMap (fun i => ws[i]?) = (isC.map (fun i => ws[i]?)).filterMap id := by rw [List.filterMap_map]; rfl
  rw [h, hC, List.filterMap_map]
  simp
theorem gP.pre {G : va_G} {k : Nat → ClassId} {sa : Nat → Nat} {av : List Value} {ws wc : va_W} {s : State} {H : Heap} {locs : List Loc} {A : Nat → Prop} (hE : gE G k sa s) (hZ : gZ sa A s s.heap) (hS : va_S A s.heap H locs) (hA : ∀ q : Nat, s.heap.size ≤ q → A q) (hP : va_P G vwCl ws H) (hD : va_D A ws) (isC : List Nat) (hC : isC.map (fun i => ws[i]?) = wc.map some) (hn : va_nd isC = true) : ∀ U : State, U.heap = H → s.WarmedH U.vm → gP G k sa av wc H.size av.toArray U := by
  intro U hU hW
  exact ⟨rfl, by rw [hU], by rw [hU]; exact hP.sub isC (gz_pick hC), hE.warm hW, (hD.sub isC hn hC).weaken (fun _ _ _ _ => trivial), by rw [hU]; exact ((hZ.kept hS.2.1).narrow (va_free (wc := wc) hD hS hA isC hC)).moved hW.alike⟩
theorem gR.pre {G : va_G} {k : Nat → ClassId} {sa : Nat → Nat} {av : List Value} {ws wc : va_W} {s : State} {H : Heap} {locs : List Loc} {A : Nat → Prop} (hE : gE G k sa s) (hZ : gZ sa A s s.heap) (hS : va_S A s.heap H locs) (hP : va_P G vwCl ws H) (isC : List Nat) (hC : isC.map (fun i => ws[i]?) = wc.map some) : ∀ U : State, U.heap = H → s.WarmedH U.vm → gR G k sa av wc av.toArray U := by
  intro U hU hW
  exact ⟨rfl, by rw [hU]; exact hP.sub isC (gz_pick hC), hE.warm hW, by rw [hU]; exact ((hZ.kept hS.2.1).narrow (fun _ h => h.elim)).moved hW.alike⟩
theorem gz_met {l : Launch} {y : MethodName} {ws ws' : List Cond} {rm : Room} {av : List Value} {wi : va_W} {sz : Nat} {Qc : Array Value → State → Outcome → State → Prop} {mc ms : Nat} {cc : ByteArray} {maxL : Nat} {ret : Option FieldType} {G : va_G} {k : Nat → ClassId} {sa : Nat → Nat}
    (hy : plainName y.cls = true) (hw : ws = Cond.code y cc maxL ret :: ws') (hn : (lg_sl av).length ≤ maxL)
    (body : ∀ (p : Program) (e : Env) (s : State) (m : MethodId) (below : List Frame) (meth : Method) (c : Code) (ls : Array Slot), p.tables.exec = Jvm.exec → c.code = cc → meth.sig.returnType = ret → c.maxLocals = maxL → (∀ w ∈ ws, w.before av.toArray s = true) → s.vm.findClass y.cls = some m.cls → meth.locks = false → meth.name = y.name →
      va_P G vwCl wi s.heap → gE G k sa s → gZ sa (va_A wi sz) s s.heap → va_D (va_A wi sz) wi → (∀ q : Nat, s.heap.size ≤ q → va_A wi sz q) → va_S (va_A wi sz) s.heap s.heap [] → lv_has ls maxL (lv_args 0 av) →
      W p l e (headSpec ws rm).room s m av.toArray below meth c s.heap [] 0 0 (MQ below Qc av.toArray s mc ms (va_A wi sz)) (F0 m 0 ls [])) : Met l y ws rm (gP G k sa av wi sz) Qc mc ms (va_A wi sz) := by
  refine Met.ofW (cc := cc) (maxL := maxL) (ret := ret) hy hw ?_
  intro p e s m args below meth c s₁ B hml hv
  obtain ⟨rfl, hsz, hP, hE, hD0, hZ⟩ := hv
  have hl := lv_entry av (n := maxL) hn
  have hb := body p e s m below meth c _ B.exec B.bytes B.returns hml (atoms_spec (ws := ws) B.pre) (findClass_of_methodNamed B.named) B.notSynchronized (name_of_methodNamed B.named B.method).1 hP hE hZ hD0.self (fun q h => Or.inr (by rw [← hsz]; exact h)) va_S.rf hl
  rw [lg_entry_eq]
  exact hb
theorem gz_metR {l : Launch} {y : MethodName} {ws ws' : List Cond} {rm : Room} {av : List Value} {wi : va_W} {Qc : Array Value → State → Outcome → State → Prop} {cc : ByteArray} {maxL : Nat} {ret : Option FieldType} {G : va_G} {k : Nat → ClassId} {sa : Nat → Nat}
    (hy : plainName y.cls = true) (hw : ws = Cond.code y cc maxL ret :: ws') (hn : (lg_sl av).length ≤ maxL)
    (body : ∀ (p : Program) (e : Env) (s : State) (m : MethodId) (below : List Frame) (meth : Method) (c : Code) (ls : Array Slot), p.tables.exec = Jvm.exec → c.code = cc → meth.sig.returnType = ret → c.maxLocals = maxL → (∀ w ∈ ws, w.before av.toArray s = true) → s.vm.findClass y.cls = some m.cls → meth.locks = false →
      va_P G vwCl wi s.heap → gE G k sa s → gZ sa (fun _ => False) s s.heap → va_S (fun _ => False) s.heap s.heap [] → lv_has ls maxL (lv_args 0 av) →
      W p l e (headSpec ws rm).room s m av.toArray below meth c s.heap [] 0 0 (MQ below Qc av.toArray s 0 0 (fun _ => False)) (F0 m 0 ls [])) : Met l y ws rm (gR G k sa av wi) Qc 0 0 (fun _ => False) := by
  refine Met.ofW (cc := cc) (maxL := maxL) (ret := ret) hy hw ?_
  intro p e s m args below meth c s₁ B hml hv
  obtain ⟨rfl, hP, hE, hZ⟩ := hv
  have hl := lv_entry av (n := maxL) hn
  have hb := body p e s m below meth c _ B.exec B.bytes B.returns hml (atoms_spec (ws := ws) B.pre) (findClass_of_methodNamed B.named) B.notSynchronized hP hE hZ va_S.rf hl
  rw [lg_entry_eq]
  exact hb
section GZ
variable {p : Program} {l : Launch} {e : Env} {R : Room} {s : State} {m : MethodId} {args : Array Value} {below : List Frame} {meth : Method} {c : Code} {H : Heap} {locs : List Loc} {cells slots mc ms pc : Nat} {ls : Array Slot} {st0 rest : List Value} {Q : State → Prop} {cc : ByteArray} {a : Array Value} {G : va_G} {A : Nat → Prop} {ws wc wr : va_W}
theorem gz_v {S : Type} {post : S → Prop} {wo : S → va_W} (hP : va_P G vwCl ws H) (hD : va_D A ws) (hS : va_S A s.heap H locs) (hA : ∀ q : Nat, s.heap.size ≤ q → A q) (isC isR : List Nat) (hC : isC.map (fun i => ws[i]?) = wc.map some) (hR : isR.map (fun i => ws[i]?) = wr.map some) (hn : va_nd isR = true) (hdis : ∀ i ∈ isR, i ∉ isC)
    (hr : va_Run p l e R s m args below meth c H locs cells slots mc ms (F0 m pc ls st0) rest (va_Qv post (gO G (va_A wc H.size) wo) (va_A wc H.size) a) (va_A wc H.size))
    (kk : ∀ (u : S) (H1 : Heap) (locs1 : List Loc), post u → va_P G vwCl (wr ++ wo u) H1 → va_D A (wr ++ wo u) → va_S A s.heap H1 locs1 → W p l e R s m args below meth c H1 locs1 (cells + mc) (slots + ms) Q (F0 m (pc + 3) ls rest)) : W p l e R s m args below meth c H locs cells slots Q (F0 m pc ls st0) := by
  have hF := va_free (wc := wc) hD hS hA isC hC
  refine va_callv hr hS (fun q _ h => hF q h) hF (fun u t H1 locs1 ht _ hw hB _ hk hS1 => ?_)
  obtain ⟨hP1, hD1⟩ := hB
  rw [ht] at hP1
  obtain ⟨hP2, hD2⟩ := va_join (wr := wr) hP hD isC isR hC hR hn hdis hk hF hP1 hD1
  exact kk u H1 locs1 hw hP2 hD2 hS1
theorem gz_i {S : Type} {post : Int32 → S → Prop} {wo : S → va_W} (hP : va_P G vwCl ws H) (hD : va_D A ws) (hS : va_S A s.heap H locs) (hA : ∀ q : Nat, s.heap.size ≤ q → A q) (isC isR : List Nat) (hC : isC.map (fun i => ws[i]?) = wc.map some) (hR : isR.map (fun i => ws[i]?) = wr.map some) (hn : va_nd isR = true) (hdis : ∀ i ∈ isR, i ∉ isC)
    (hr : va_Run p l e R s m args below meth c H locs cells slots mc ms (F0 m pc ls st0) rest (va_Qi post (gO G (va_A wc H.size) wo) (va_A wc H.size) a) (va_A wc H.size))
    (kk : ∀ (r : Int32) (u : S) (H1 : Heap) (locs1 : List Loc), post r u → va_P G vwCl (wr ++ wo u) H1 → va_D A (wr ++ wo u) → va_S A s.heap H1 locs1 → W p l e R s m args below meth c H1 locs1 (cells + mc) (slots + ms) Q (F0 m (pc + 3) ls (.int r :: rest))) : W p l e R s m args below meth c H locs cells slots Q (F0 m pc ls st0) := by
  have hF := va_free (wc := wc) hD hS hA isC hC
  refine va_calli hr hS (fun q _ h => hF q h) hF (fun r u t H1 locs1 ht _ hw hB _ hk hS1 => ?_)
  obtain ⟨hP1, hD1⟩ := hB
  rw [ht] at hP1
  obtain ⟨hP2, hD2⟩ := va_join (wr := wr) hP hD isC isR hC hR hn hdis hk hF hP1 hD1
  exact kk r u H1 locs1 hw hP2 hD2 hS1
theorem gz_l {S : Type} {post : Int64 → S → Prop} {wo : S → va_W} (hP : va_P G vwCl ws H) (hD : va_D A ws) (hS : va_S A s.heap H locs) (hA : ∀ q : Nat, s.heap.size ≤ q → A q) (isC isR : List Nat) (hC : isC.map (fun i => ws[i]?) = wc.map some) (hR : isR.map (fun i => ws[i]?) = wr.map some) (hn : va_nd isR = true) (hdis : ∀ i ∈ isR, i ∉ isC)
    (hr : va_Run p l e R s m args below meth c H locs cells slots mc ms (F0 m pc ls st0) rest (va_Ql post (gO G (va_A wc H.size) wo) (va_A wc H.size) a) (va_A wc H.size))
    (kk : ∀ (r : Int64) (u : S) (H1 : Heap) (locs1 : List Loc), post r u → va_P G vwCl (wr ++ wo u) H1 → va_D A (wr ++ wo u) → va_S A s.heap H1 locs1 → W p l e R s m args below meth c H1 locs1 (cells + mc) (slots + ms) Q (F0 m (pc + 3) ls (.long r :: rest))) : W p l e R s m args below meth c H locs cells slots Q (F0 m pc ls st0) := by
  have hF := va_free (wc := wc) hD hS hA isC hC
  refine va_calll hr hS (fun q _ h => hF q h) hF (fun r u t H1 locs1 ht _ hw hB _ hk hS1 => ?_)
  obtain ⟨hP1, hD1⟩ := hB
  rw [ht] at hP1
  obtain ⟨hP2, hD2⟩ := va_join (wr := wr) hP hD isC isR hC hR hn hdis hk hF hP1 hD1
  exact kk r u H1 locs1 hw hP2 hD2 hS1
/-- a computed number is that written one -/
theorem gz_ni {x v : Int32} (h : x = v) (kk : W p l e R s m args below meth c H locs cells slots Q (F0 m pc ls (.int v :: rest))) : W p l e R s m args below meth c H locs cells slots Q (F0 m pc ls (.int x :: rest)) := by rw [h]; exact kk
theorem gz_nl {x v : Int64} (h : x = v) (kk : W p l e R s m args below meth c H locs cells slots Q (F0 m pc ls (.long v :: rest))) : W p l e R s m args below meth c H locs cells slots Q (F0 m pc ls (.long x :: rest)) := by rw [h]; exact kk
theorem gz_top {x v : Value} (h : x = v) (kk : W p l e R s m args below meth c H locs cells slots Q (F0 m pc ls (v :: rest))) : W p l e R s m args below meth c H locs cells slots Q (F0 m pc ls (x :: rest)) := by rw [h]; exact kk
end GZ
theorem gz_ra {s : State} {c1 c2 : ClassId} {ty : FieldType} (h1 : va_RA s c1 ty) (h2 : va_RA s c2 ty) : c1 = c2 := by
  cases ty with
  | object C =>
    obtain ⟨_, _, _, _, _, a⟩ := h1
    obtain ⟨_, _, _, _, _, b⟩ := h2
    exact Option.some.inj (a.symm.trans b)
  | _ => exact Option.some.inj ((show s.vm.findClass _ = some c1 from h1).symm.trans (show s.vm.findClass _ = some c2 from h2))
section GZN
variable {p : Program} {l : Launch} {e : Env} {R : Room} {s : State} {m : MethodId} {args : Array Value} {below : List Frame} {meth : Method} {c : Code} {H H0 : Heap} {locs : List Loc} {cells slots pc : Nat} {ls : Array Slot} {rest : List Value} {Q : State → Prop} {cc : ByteArray} {G : va_G} {A : Nat → Prop} {ws : va_W} {k : Nat → ClassId} {sa : Nat → Nat}
theorem gz_newa (hx : p.tables.exec = Jvm.exec) (hb : c.code = cc) {atype : ArrayType} (harr : (Cond.arrayClass (newarray.typeOf atype)).before args s = true) {ty : FieldType} (hty : newarray.typeOf atype = ty) (hE : gE G k sa s) (t0 : Nat) {cA : ClassId} (ht : (gT k)[t0]? = some (cA, ty)) (hP : va_P G vwCl ws H) (hD : va_D A ws) (hS : va_S A H0 H locs) (hA : ∀ q : Nat, H0.size ≤ q → A q)
    {n : Int32} {N' : Nat} {a0 : vp_A} (ha : ∀ cA : ClassId, vp_cell cA a0 = arrV cA N' (fun _ => defaultValue ty)) (hn : ¬ n < 0) (hN : n.toNatClampNeg = N') (hbytes : N' * componentBytes ty ≤ 536870912) (hcells : cells + 1 ≤ R.cells) (hslots : slots + N' ≤ R.slots) (hdg : decode cc pc = .ok (.newarray atype, 2))
    (kk : ∀ (q : Nat) (H1 : Heap), va_P G vwCl (ws ++ [(q, .inl (cA, a0))]) H1 → va_D A (ws ++ [(q, .inl (cA, a0))]) → va_S A H0 H1 locs → W p l e R s m args below meth c H1 locs (cells + 1) (slots + N') Q (F0 m (pc + 2) ls (.ref q :: rest))) : W p l e R s m args below meth c H locs cells slots Q (F0 m pc ls (.int n :: rest)) := by
  refine va_newa hx hb harr hty hE.K hP hD hS hA ha hn hN hbytes hcells hslots hdg (fun q cB H1 hK hP hD hS => ?_)
  have e1 : cB = cA := gz_ra (hK.2 (gT k).length (cB, ty) (by simp)).2 (hE.K.2 t0 _ ht).2
  subst e1
  exact kk q H1 hP hD hS
theorem gz_newq (hx : p.tables.exec = Jvm.exec) (hb : c.code = cc) {own C : String} {index : Nat} (hown : s.vm.findClass own = some m.cls) (hclink : (Cond.classLink own index C).before args s = true) (hover : va_AO C s) (hE : gE G k sa s) (t0 : Nat) {cA : ClassId} (ht : (gT k)[t0]? = some (cA, .object C)) (hP : va_P G vwCl ws H) (hD : va_D A ws) (hS : va_S A H0 H locs) (hA : ∀ q : Nat, H0.size ≤ q → A q)
    {n : Int32} {N' : Nat} (hn : ¬ n < 0) (hN : n.toNatClampNeg = N') (hbytes : N' * 4 ≤ 536870912) (hcells : cells + 1 ≤ R.cells) (hslots : slots + N' ≤ R.slots) (hdg : decode cc pc = .ok (.anewarray index, 3))
    (kk : ∀ (q : Nat) (H1 : Heap), va_P G vwCl (ws ++ [(q, .inl (cA, N', .inr (.inr (.inr (.inr (fun _ => none))))))]) H1 → va_D A (ws ++ [(q, .inl (cA, N', .inr (.inr (.inr (.inr (fun _ => none))))))]) → va_S A H0 H1 locs → W p l e R s m args below meth c H1 locs (cells + 1) (slots + N') Q (F0 m (pc + 3) ls (.ref q :: rest))) : W p l e R s m args below meth c H locs cells slots Q (F0 m pc ls (.int n :: rest)) := by
  refine va_newq hx hb hown hclink hover hE.K hP hD hS hA hn hN hbytes hcells hslots hdg (fun q cB H1 hK hP hD hS => ?_)
  have e1 : cB = cA := gz_ra (hK.2 (gT k).length (cB, .object C) (by simp)).2 (hE.K.2 t0 _ ht).2
  subst e1
  exact kk q H1 hP hD hS
end GZN
theorem gz_lt {a b : Int32} : a < b ↔ a.toInt < b.toInt := Int32.lt_iff_toInt_lt
theorem gz_le {a b : Int32} : a ≤ b ↔ a.toInt ≤ b.toInt := Int32.le_iff_toInt_le
theorem gz_eq {a b : Int32} : a = b ↔ a.toInt = b.toInt := Int32.toInt_inj.symm
theorem gz_out (c : Int32) : c < 0 ∨ (-1 : Int32) < c := by
  rw [gz_lt, gz_lt]
  have h0 : (0 : Int32).toInt = 0 := by decide
  have h1 : (-1 : Int32).toInt = -1 := by decide
  omega
theorem gz_o0 {r a b : Int32} {P : Prop} (h : (r = a ∧ P) ∨ (r = b ∧ ¬ P)) (hp : P) : r = a ∧ P := h.elim id (fun q => absurd hp q.2)
theorem gz_o1 {r a b : Int32} {P : Prop} (h : (r = a ∧ P) ∨ (r = b ∧ ¬ P)) (hp : ¬ P) : r = b ∧ ¬ P := h.elim (fun q => absurd q.2 hp) id
theorem gz_in3 {a : Int32} (h : ¬ (a < 0 ∨ 3 < a)) : a = 0 ∨ a = 1 ∨ a = 2 ∨ a = 3 := by
  rw [gz_lt, gz_lt] at h
  have h0 : (0 : Int32).toInt = 0 := by decide
  have h3 : (3 : Int32).toInt = 3 := by decide
  have hc : a.toInt = 0 ∨ a.toInt = 1 ∨ a.toInt = 2 ∨ a.toInt = 3 := by omega
  rcases hc with h | h | h | h
  · exact Or.inl (Int32.toInt_inj.mp (h.trans (by decide)))
  · exact Or.inr (Or.inl (Int32.toInt_inj.mp (h.trans (by decide))))
  · exact Or.inr (Or.inr (Or.inl (Int32.toInt_inj.mp (h.trans (by decide)))))
  · exact Or.inr (Or.inr (Or.inr (Int32.toInt_inj.mp (h.trans (by decide)))))
theorem gz_inL3 {a : Int32} (h : (0 : Int64) ≤ a.toInt64 ∧ a.toInt64 ≤ 3) : a = 0 ∨ a = 1 ∨ a = 2 ∨ a = 3 := by
  obtain ⟨h1, h2⟩ := h
  rw [Int64.le_iff_toInt_le, Int32.toInt_toInt64] at h1 h2
  have h0 : (0 : Int64).toInt = 0 := by decide
  have h3 : (3 : Int64).toInt = 3 := by decide
  have hc : a.toInt = 0 ∨ a.toInt = 1 ∨ a.toInt = 2 ∨ a.toInt = 3 := by omega
  rcases hc with h | h | h | h
  · exact Or.inl (Int32.toInt_inj.mp (h.trans (by decide)))
  · exact Or.inr (Or.inl (Int32.toInt_inj.mp (h.trans (by decide))))
  · exact Or.inr (Or.inr (Or.inl (Int32.toInt_inj.mp (h.trans (by decide)))))
  · exact Or.inr (Or.inr (Or.inr (Int32.toInt_inj.mp (h.trans (by decide)))))
theorem gz_e1 {a : Int32} (h : a < 0) : ¬ a = 0 := fun e => by rw [e] at h; exact absurd h (by decide)
theorem gz_e2 {a : Int32} (h : ¬ a ≤ 0) : ¬ a = 0 := fun e => by rw [e] at h; exact absurd h (by decide)
theorem gz_e3 {a : Int32} (h : ¬ a < 0) (h2 : a ≤ 0) : a = 0 := by
  rw [gz_lt] at h
  rw [gz_le] at h2
  have h0 : (0 : Int32).toInt = 0 := by decide
  exact Int32.toInt_inj.mp (by omega)
theorem gz_in {i : Int32} {n : Nat} (h : ¬ (i < 0 ∨ n ≤ i.toNatClampNeg)) : vp_in i n := h
def gGood (ws : List Cond) : Prop := ∀ w ∈ ws, (w.onTables && w.keeps) = true ∨ ∃ ty, w = .arrayClass ty
theorem gGood_of {ws : List Cond} (h : ws.all goodWord = true) : gGood ws := fun w hw => good_of_word (List.all_eq_true.mp h w hw)
theorem gGood_nil : gGood [] := fun _ h => absurd h List.not_mem_nil
theorem gGood_app {a b : List Cond} (ha : gGood a) (hb : gGood b) : gGood (a ++ b) := fun w h => (List.mem_append.mp h).elim (ha w) (hb w)
theorem gz_gi {big ws : List Cond} (hm : ∀ w ∈ ws, w ∈ big) (hg : gGood ws) : GoodIn big ws := fun w h => ⟨hm w h, hg w h⟩
theorem gGood_co {c : Cond} {a b : List Cond} (ha : gGood (c :: a)) (hb : gGood b) : gGood (c :: (a ++ b)) := fun w h => (List.mem_cons.mp h).elim (fun e => ha w (List.mem_cons.mpr (Or.inl e))) (fun h => (List.mem_append.mp h).elim (fun q => ha w (List.mem_cons.mpr (Or.inr q))) (hb w))
