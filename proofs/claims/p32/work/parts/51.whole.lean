/-! Contracts over the whole worlds -/
section GWH
variable {l : Launch} {y : MethodName} {vs : List Cond} {rm : Room} {G : va_G} {k : Nat → ClassId} {sa : Nat → Nat} {av : List Value} {ws wc : va_W} {sz : Nat}
/-- a contract that looks at few cells alone, over a whole world -/
theorem gz_frR {S : Type} {post : Int32 → Prop} {post' : Int32 → S → Prop} {wo' : S → va_W} {u0 : S} (hM : Met l y vs rm (gR G k sa av wc) (vp_Si post) 0 0 (fun _ => False)) (isC : List Nat) (hC : isC.map (fun i => ws[i]?) = wc.map some) (hw : wo' u0 = ws) (hpost : ∀ r, post r → post' r u0) : Met l y vs rm (gP G k sa av ws sz) (va_Qi post' (gO G (va_A ws sz) wo') (va_A ws sz)) 0 0 (va_A ws sz) := by
  intro p e h1 h2 h3 s m args below h4 h5 h6 h7
  obtain ⟨q0, q1, q2, q3, q4, q5⟩ := h6
  obtain ⟨n, o, g1, g2, g3, g4⟩ := hM p e h1 h2 h3 s m args below h4 h5 ⟨q0, q2.sub isC (gz_pick hC), q3, q5.narrow (fun _ h => h.elim)⟩ h7
  refine ⟨n, o, g1, g2, g3, ?_⟩
  obtain ⟨⟨r, e1, e2, e3⟩, L, e4, e5⟩ := g4
  refine ⟨⟨⟨r, u0, e1, hpost r e2, ?_⟩, ?_, fun q _ _ => ?_⟩, L, e4, fun q hq => (e5 q hq).elim⟩
  · show va_P G vwCl (wo' u0) (stepsAlone p.tables e n s).heap ∧ va_D (va_A ws sz) (wo' u0)
    rw [hw, e3]; exact ⟨q2, q4.self⟩
  · rw [e3]; exact Nat.le_refl _
  · rw [e3]
end GWH
def gMem {α : Type} (P : α → Prop) (L : List α) : Prop := ∀ q ∈ L, P q
theorem gMem_nil {α : Type} {P : α → Prop} : gMem P [] := fun _ h => absurd h List.not_mem_nil
theorem gMem_cons {α : Type} {P : α → Prop} {a : α} {L : List α} (h : P a) (t : gMem P L) : gMem P (a :: L) := List.forall_mem_cons.mpr ⟨h, t⟩
theorem gMem_at {α : Type} {P : α → Prop} {L : List α} (h : gMem P L) (i : Nat) {a : α} (e : L[i]? = some a) : P a := h a (List.mem_of_getElem? e)
section GZF
variable {p : Program} {l : Launch} {e : Env} {R : Room} {s : State} {m : MethodId} {args : Array Value} {below : List Frame} {meth : Method} {c : Code} {H : Heap} {locs : List Loc} {cells slots mc ms pc : Nat} {ls : Array Slot} {st0 rest : List Value} {Q : State → Prop} {a : Array Value} {G : va_G} {A : Nat → Prop} {X Y : va_W}
/-- a call on the first of two worlds: the second one stays -/
theorem gz_iF {S : Type} {post : Int32 → S → Prop} {wo : S → va_W} (hP : va_P G vwCl (X ++ Y) H) (hD : va_D A (X ++ Y)) (hS : va_S A s.heap H locs) (hA : ∀ q : Nat, s.heap.size ≤ q → A q)
    (hr : va_Run p l e R s m args below meth c H locs cells slots mc ms (F0 m pc ls st0) rest (va_Qi post (gO G (va_A X H.size) wo) (va_A X H.size) a) (va_A X H.size))
    (kk : ∀ (r : Int32) (u : S) (H1 : Heap) (locs1 : List Loc), post r u → va_P G vwCl (Y ++ wo u) H1 → va_D A (Y ++ wo u) → va_S A s.heap H1 locs1 → W p l e R s m args below meth c H1 locs1 (cells + mc) (slots + ms) Q (F0 m (pc + 3) ls (.int r :: rest))) : W p l e R s m args below meth c H locs cells slots Q (F0 m pc ls st0) :=
  gz_i (wc := X) (wr := Y) hP hD hS hA (List.range X.length) ((List.range Y.length).map (fun i => X.length + i)) (gz_rng1 X Y) (gz_rng2 X Y) (gz_nd2 _ _) (gz_rdis _ _) hr kk
theorem gz_preF {k : Nat → ClassId} {sa : Nat → Nat} {av : List Value} (hE : gE G k sa s) (hZ : gZ sa A s s.heap) (hS : va_S A s.heap H locs) (hA : ∀ q : Nat, s.heap.size ≤ q → A q) (hP : va_P G vwCl (X ++ Y) H) (hD : va_D A (X ++ Y)) : ∀ U : State, U.heap = H → s.WarmedH U.vm → gP G k sa av X H.size av.toArray U :=
  gP.pre (ws := X ++ Y) (wc := X) hE hZ hS hA hP hD (List.range X.length) (gz_rng1 X Y) (gz_nd1 _)
end GZF
/-- the last rule of an image that is made is a rule -/
def gFm (f g : Nat → Int32) (n : Int32) : Prop := ∀ j : Nat, j < 4 → f j = 1 → -1 ≤ (g j).toInt ∧ (g j).toInt ≤ n.toInt - 1
theorem gFm_w {f g : Nat → Int32} {n n' : Int32} (h : gFm f g n) (hn : n.toInt ≤ n'.toInt) : gFm f g n' := fun j hj e => ⟨(h j hj e).1, Int.le_trans (h j hj e).2 (Int.sub_le_sub_right hn 1)⟩
theorem gFm_upd {f g f' g' : Nat → Int32} {n x : Int32} {k : Nat} {b : Int} (h : gFm f g n) (e1 : f' = upd f k 1) (e2 : g' = upd g k x) (hx : gIv (-1) b x) (hn : x.toInt < n.toInt) : gFm f' g' n := fun j hj e => by
  rw [e1] at e
  rw [e2]
  by_cases hk : j = k
  · rw [hk, pk_us]; exact ⟨hx.1, by omega⟩
  · rw [pk_un hk] at e
    rw [pk_un hk]; exact h j hj e
def gIL : List (Nat × Int × Int) := [(1000, 0, 400), (1014, 0, 7), (1015, 0, 12), (1016, 0, 6), (1017, 0, 999), (1018, 0, 12), (1019, 0, 400), (1020, 0, 12), (1021, 0, 400), (1022, 0, 12), (1023, 0, 400), (1024, 0, 12), (1025, 0, 400), (1026, 0, 12), (1027, 0, 400), (1028, 0, 12), (1029, 0, 400), (1030, 0, 6), (1031, 0, 7), (1032, 0, 12), (1033, 0, 6), (1034, 0, 999), (1035, 0, 6), (1036, 0, 999), (1037, 0, 10), (1040, 0, 1), (1041, 0, 7), (1042, 0, 12), (1043, 0, 6), (1044, 0, 999), (1045, 0, 6), (1046, 0, 999), (1047, 0, 10), (1050, 0, 1), (1051, 0, 7), (1052, 0, 12), (1053, 0, 6), (1054, 0, 999), (1055, 0, 6), (1056, 0, 999), (1057, 0, 10), (1060, 0, 1), (1061, 0, 7), (1062, 0, 12), (1063, 0, 6), (1064, 0, 999), (1065, 0, 6), (1066, 0, 999), (1067, 0, 10), (1070, 0, 1), (1071, 0, 7), (1072, 0, 12), (1073, 0, 6), (1074, 0, 999), (1075, 0, 6), (1076, 0, 999), (1077, 0, 10), (1080, 0, 1), (1081, 0, 19), (1082, 0, 20), (1099, 0, 7)]
def gAL : List (Nat × Int × Int × Nat) := [(1002, 0, 400, 12), (1003, 0, 400, 12), (1012, 0, 400, 12), (1013, 0, 400, 12), (1015, 0, 400, 12), (1016, 0, 400, 12), (1018, 0, 400, 12), (1019, 0, 400, 12), (1021, 0, 400, 12), (1022, 0, 400, 12), (1024, 0, 400, 12), (1025, 0, 400, 12), (1027, 0, 400, 12), (1028, 0, 400, 12), (1041, 0, 5, 10), (1055, 0, 5, 10), (1069, 0, 5, 10), (1083, 0, 5, 10), (1097, 0, 5, 10)]
def gXL : List Nat := [1038, 1048, 1058, 1068, 1078, 1050, 1060, 1070, 1080]
/-- what holds of the class between calls -/
def gGI (ad : Nat → Nat) (S : gS) : Prop := gHis S.1 ∧ gMem (fun q : Nat × Int × Int => gIv q.2.1 q.2.2 (S.1 q.1)) gIL ∧ gMem (fun q : Nat × Int × Int × Nat => gAll q.2.1 q.2.2.1 q.2.2.2 (S.2.1 q.1)) gAL ∧ gRu [(ad 122), (ad 127), (ad 132), (ad 137), (ad 142), (ad 147)] (S.2.2.2.2 1000) ∧ gRu [(ad 122), (ad 127), (ad 132), (ad 137), (ad 142), (ad 147)] (S.2.2.2.2 1001)
def gXX (S S' : gS) : Prop := gMem (fun i => S'.1 i = S.1 i) gXL
theorem gXX_rf {S : gS} : gXX S S := fun _ _ => rfl
def gMx {α : Type} (f g : Nat → α) : Nat → α := fun i => cond (Nat.blt i 1000) (f i) (g i)
theorem gHis_mx {f g : Nat → Int32} (h : gHis f) : gHis (gMx f g) := by
  refine ⟨fun i hi => ?_, fun i hi => ?_⟩
  · have e : Nat.blt i 1000 = true := Nat.blt_eq.mpr (by omega)
    show gIv 0 6 (cond (Nat.blt i 1000) (f i) (g i))
    rw [e]; exact h.1 i hi
  · have e : Nat.blt (20 + i) 1000 = true := Nat.blt_eq.mpr (by omega)
    show gIv 0 999 (cond (Nat.blt (20 + i) 1000) (f (20 + i)) (g (20 + i)))
    rw [e]; exact h.2 i hi
def gJL : List (Nat × Int × Int) := [(1000, 0, 400), (1001, 0, 6), (1011, (-1), 5), (1019, 0, 20)]
/-- what holds of the reference between calls, whatever is told -/
def gGB (T : gS) : Prop := gMem (fun q : Nat × Int × Int => gIv q.2.1 q.2.2 (T.1 q.1)) gJL ∧ (T.1 1011).toInt < (T.1 1001).toInt ∧ gRv (T.2.1 1001) (T.2.1 1003) (T.2.1 1004) (T.1 1001) ∧ gSc (gKe 999) 74 (T.2.1 1010) ∧ gSc gWa 1480 (T.2.1 1009) ∧ gIm (T.2.1 1015) ∧ gFm (T.2.1 1018) (T.2.1 1016) (T.1 1001) ∧ gSc gRe 175 (T.2.1 1005)
def gSt (f : Nat → Int32) (u : Int32) : Prop := (gAll 0 0 206 f ∧ gIv 0 0 u) ∨ gSc (gEl 999) 206 f
theorem gSt_mv {f g : Nat → Int32} {u v : Int32} (h : gSt f u) (e1 : g = f) (e2 : v = u) : gSt g v := by rw [e1, e2]; exact h
def gGM (T : gS) : Prop := gGB T ∧ gSt (T.2.1 1007) (T.1 1019)
def gXM (T T' : gS) : Prop := (T'.1 1012) = (T.1 1012) ∧ (T'.2.1 1017) = (T.2.1 1017) ∧ (T'.2.1 1018) = (T.2.1 1018)
theorem gXM_rf {T : gS} : gXM T T := ⟨rfl, rfl, rfl⟩
