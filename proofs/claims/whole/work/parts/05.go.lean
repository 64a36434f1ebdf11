def nsW : List Cond := [.methodLinkNest RX11 23 yX2_init "ApproverWins", .methodLinkNest RX11 30 yX4_init "ApproverWins", .methodLinkNest RX11 37 yX9_init "ApproverWins", .methodLinkNest RX11 44 yX0_init "ApproverWins", .methodLinkNest RX11 54 yX5_init "ApproverWins", .methodLinkNest RX11 61 yX7_init "ApproverWins", .methodLinkNest RX11 76 yX6_init "ApproverWins"]
theorem nsW_on : ∀ w ∈ nsW, w.onTables = true := by decide +kernel
theorem nsW_warm {s U : State} (hW : s.WarmedH U.vm) : ∀ w ∈ nsW, va_Nw w s → va_Nw w U := by
  intro w hw h
  simp only [nsW, List.mem_cons, List.not_mem_nil, or_false] at hw
  rcases hw with rfl | rfl | rfl | rfl | rfl | rfl | rfl <;> exact va_Nw.warmM hW h
/-- what the tables say of the classes and of the arrays -/
def KK (D : va_G) (tC : Nat → Nat) (U : State) : Prop := va_K D vwCl [(tC 0, .int), (tC 1, .long), (tC 2, .object RX6)] U ∧ (∀ w ∈ nsW, va_Nw w U) ∧ va_AO RX6 U
theorem KK.warm {D : va_G} {tC : Nat → Nat} {s U : State} (hW : s.WarmedH U.vm) (h : KK D tC s) : KK D tC U := ⟨va_K.moved hW.alike h.1, fun w hw => nsW_warm hW w hw (h.2.1 w hw), va_AO.moved hW.alike h.2.2⟩
theorem KK.blind {D : va_G} {tC : Nat → Nat} {U : State} {g : JFrame} {mk : MethodId} {a : Array Value} (h : KK D tC U) : KK D tC (U.calling g mk a) := ⟨va_K.moved (u := U) (U := U.calling g mk a) (Vm.Alike.refl U.vm) h.1, fun w hw => va_Nw.same (nsW_on w hw) (rfl : U.vm = (U.calling g mk a).vm) (h.2.1 w hw), va_AO.moved (u := U) (U := U.calling g mk a) (Vm.Alike.refl U.vm) h.2.2⟩
/-- a running method -/
def Cx (M : MD) (p : Program) (s : State) (m : MethodId) (args : Array Value) (meth : Method) (c : Code) : Prop :=
  p.tables.exec = Jvm.exec ∧ c.code = M.2.1 ∧ c.maxLocals = M.2.2.1 ∧ meth.sig.returnType = M.2.2.2.1 ∧ s.vm.findClass M.1.cls = some m.cls ∧ (∀ w ∈ tb, w.before args s = true) ∧ meth.locks = false ∧ meth.name = M.1.name
def Rl (D : va_G) (tC : Nat → Nat) (A : Nat → Prop) (n0 : Nat) (ad0 ad : Nat → Nat) (w : List AE) (s : State) (H : Heap) (locs : List Loc) : Prop :=
  va_P D vwCl (gw ad tC w) H ∧ va_D A (gw ad tC w) ∧ va_S A s.heap H locs ∧ (∀ q, s.heap.size ≤ q → A q) ∧ n0 ≤ w.length ∧ (∀ k, k < n0 → ad k = ad0 k) ∧ (w.length = n0 → ad = ad0) ∧ ad sid = ad0 sid
/-- a return that fits -/
def rti (M : MD) (pc : Nat) : Option Value → Prop
  | none => decode M.2.1 pc = .ok (.return_, 1) ∧ M.2.2.2.1 = none
  | some (.int x) => decode M.2.1 pc = .ok (.ireturn, 1) ∧ ∃ ty, M.2.2.2.1 = some ty ∧ narrow ty (.int x) = .int x
  | some (.long _) => decode M.2.1 pc = .ok (.lreturn, 1) ∧ M.2.2.2.1 = some .long
  | some (.ref _) => decode M.2.1 pc = .ok (.areturn, 1) ∧ ∃ n, M.2.2.2.1 = some (.object n)
  | _ => False
/-- what comes of a return -/
def Rt (M : MD) (p : Program) (l : Launch) (e : Env) (s : State) (m : MethodId) (args : Array Value) (below : List Frame) (meth : Method) (c : Code) (D : va_G) (tC : Nat → Nat) (A : Nat → Prop) (n0 : Nat) (ad0 : Nat → Nat) (Q : Option Value → List AE → Prop) (Z : State → Prop) : Prop :=
  ∀ (v : Option Value) (w : List AE) (ad : Nat → Nat) (H : Heap) (locs : List Loc) (ls : Array Slot) (pc : Nat), Q v w → Rl D tC A n0 ad0 ad w s H locs → rti M pc v →
    W p l e M.2.2.2.2 s m args below meth c H locs M.2.2.2.2.cells M.2.2.2.2.slots Z (F0 m pc ls (v.map (gv ad)).toList)
/-- from this frame, with this world, the method comes to a return with Q -/
def Go (X : (Nat → Nat) → State → (Nat → Prop) → Prop) (M : MD) (Q : Option Value → List AE → Prop) (n0 cn sn pc : Nat) (L : List (Option Value)) (st : List Value) (w : List AE) : Prop :=
  ∀ (p : Program) (l : Launch) (e : Env) (s : State) (m : MethodId) (args : Array Value) (below : List Frame) (meth : Method) (c : Code) (D : va_G) (ad0 ad tC : Nat → Nat) (A : Nat → Prop) (H : Heap) (locs : List Loc) (ls : Array Slot) (Z : State → Prop),
    Cx M p s m args meth c → KK D tC s → X ad0 s A → Rl D tC A n0 ad0 ad w s H locs → lh ls M.2.2.1 ad L → Rt M p l e s m args below meth c D tC A n0 ad0 Q Z →
    W p l e M.2.2.2.2 s m args below meth c H locs cn sn Z (F0 m pc ls (st.map (gv ad)))
def adx (n n1 : Nat) (ad ad1 : Nat → Nat) : Prop := n ≤ n1 ∧ (∀ k, k < n → ad1 k = ad k) ∧ (n1 = n → ad1 = ad)
/-- a method's contract: called with av in the world w it comes back, with Q of its answer and of the world -/
def Ev (M : MD) (av : List Value) (w : List AE) (Q : Option Value → List AE → Prop) : Prop :=
  ∀ (l : Launch) (D : va_G) (tC ad : Nat → Nat) (sz : Nat),
    Met l M.1 (wCode M :: tb) M.2.2.2.2 (va_Pc (av.map (gv ad)) (fun U => U.heap.size = sz ∧ va_P D vwCl (gw ad tC w) U.heap ∧ KK D tC U ∧ va_D (fun _ => True) (gw ad tC w)))
      (fun _ st oc t => (∃ (v : Option Value) (w1 : List AE) (ad1 : Nat → Nat), oc = .returned (v.map (gv ad1)) ∧ Q v w1 ∧ adx w.length w1.length ad ad1 ∧ va_P D vwCl (gw ad1 tC w1) t.heap ∧ va_D (va_A (gw ad tC w) sz) (gw ad1 tC w1)) ∧ va_F (va_A (gw ad tC w) sz) st t)
      M.2.2.2.2.cells M.2.2.2.2.slots (va_A (gw ad tC w) sz)
abbrev X0 : (Nat → Nat) → State → (Nat → Prop) → Prop := fun _ _ _ => True
set_option maxHeartbeats 1000000 in
theorem ev_of {M : MD} {n : Nat} (hM : CB M n) {av : List Value} {w : List AE} {Q : Option Value → List AE → Prop} (L : List (Option Value)) (hlen : (eL av).length ≤ M.2.2.1) (hL : pL M.2.2.1 (eL av) = L) (hg : Go X0 M Q w.length 0 0 0 L [] w) : Ev M av w Q := by
  intro l D tC ad sz
  refine Met.ofW (cc := M.2.1) (maxL := M.2.2.1) (ret := M.2.2.2.1) hM.1 rfl ?_
  intro p e s m args below meth c s₁ B hml hv
  obtain ⟨rfl, hsz, hP, hK, hD0⟩ := hv
  have hts := atoms_spec (ws := wCode M :: tb) B.pre
  have hown : s.vm.findClass M.1.cls = some m.cls := findClass_of_methodNamed B.named
  have hlocks := B.notSynchronized
  subst hsz
  have hD := hD0.self (sz := s.heap.size)
  have hl := lv_entry (av.map (gv ad)) (n := M.2.2.1) (by rw [eL_len]; exact hlen)
  rw [lg_entry_eq]
  generalize (lg_sl (av.map (gv ad)) ++ List.replicate (M.2.2.1 - (lg_sl (av.map (gv ad))).length) Slot.unset).toArray = ls at hl ⊢
  refine hg p l e s m _ below meth c D ad ad tC (va_A (gw ad tC w) s.heap.size) s.heap [] ls _ ⟨B.exec, B.bytes, hml, B.returns, hown, fun w h => hts w (List.mem_cons_of_mem _ h), hlocks, (name_of_methodNamed B.named B.method).1⟩ hK trivial ⟨hP, hD, va_S.rf, fun q h => Or.inr h, Nat.le_refl _, fun _ _ => rfl, fun _ => rfl, rfl⟩ (lv_mono hl fun q hq => ?_) ?_
  · obtain ⟨k, v, h1, rfl⟩ := gl_mem.mp hq
    rw [← hL] at h1
    exact eL_args (pL_get h1)
  · intro v w' ad' H' locs' ls' pc' hQ hR hr
    have post : ∀ t : State, t.heap = H' → ((∃ (v1 : Option Value) (w1 : List AE) (ad1 : Nat → Nat), Outcome.returned (v.map (gv ad')) = .returned (v1.map (gv ad1)) ∧ Q v1 w1 ∧ adx w.length w1.length ad ad1 ∧ va_P D vwCl (gw ad1 tC w1) t.heap ∧ va_D (va_A (gw ad tC w) s.heap.size) (gw ad1 tC w1)) ∧ va_F (va_A (gw ad tC w) s.heap.size) s t) := fun t ht =>
      ⟨⟨v, w', ad', rfl, hQ, ⟨hR.2.2.2.2.1, hR.2.2.2.2.2.1, hR.2.2.2.2.2.2.1⟩, by rw [ht]; exact hR.1, hR.2.1⟩, hR.2.2.1.F ht⟩
    match v, hr, post with
    | none, hr, post => exact W.vret B.exec B.bytes (B.returns.trans hr.2) (fun t ht _ => post t ht) hR.2.2.1.2.2 hr.1 hlocks
    | some (.int x), hr, post =>
      obtain ⟨h1, ty, h2, h3⟩ := hr
      exact W.zret B.exec B.bytes (B.returns.trans h2) h3 (fun t ht _ => post t ht) hR.2.2.1.2.2 h1 hlocks
    | some (.long x), hr, post => exact W.lret B.exec B.bytes (B.returns.trans hr.2) (fun t ht _ => post t ht) hR.2.2.1.2.2 hr.1 hlocks
    | some (.ref x), hr, post =>
      obtain ⟨h1, n, h2⟩ := hr
      exact W.aret B.exec B.bytes (B.returns.trans h2) (Or.inl ⟨n, rfl⟩) (Or.inr ⟨_, rfl⟩) (fun t ht _ => post t ht) hR.2.2.1.2.2 h1 hlocks
    | some .null, hr, _ => exact hr.elim
    | some (.float x), hr, _ => exact hr.elim
    | some (.double x), hr, _ => exact hr.elim
    | some (.retAddr x), hr, _ => exact hr.elim
section Rows
variable {X : (Nat → Nat) → State → (Nat → Prop) → Prop} {M : MD} {Q : Option Value → List AE → Prop} {n0 cn sn pc : Nat} {L : List (Option Value)} {st : List Value} {w : List AE}
theorem go_iconst {n : Int} (v : Int32) (hd : decode M.2.1 pc = .ok (.iconst n, 1)) (hv : Int32.ofInt n = v) (k : Go X M Q n0 cn sn (pc + 1) L (.int v :: st) w) : Go X M Q n0 cn sn pc L st w := by
  intro p l e s m args below meth c D ad0 ad tC A H locs ls Z hC hK hX hR hl hZ
  exact lv_iconst hC.1 hC.2.1 hd hv (k p l e s m args below meth c D ad0 ad tC A H locs ls Z hC hK hX hR hl hZ)
theorem go_bipush {n : Int} (v : Int32) (hd : decode M.2.1 pc = .ok (.bipush n, 2)) (hv : (Int8.ofInt n).toInt32 = v) (k : Go X M Q n0 cn sn (pc + 2) L (.int v :: st) w) : Go X M Q n0 cn sn pc L st w := by
  intro p l e s m args below meth c D ad0 ad tC A H locs ls Z hC hK hX hR hl hZ
  exact lv_bipush hC.1 hC.2.1 hd hv (k p l e s m args below meth c D ad0 ad tC A H locs ls Z hC hK hX hR hl hZ)
theorem go_sipush {n : Int} (v : Int32) (hd : decode M.2.1 pc = .ok (.sipush n, 3)) (hv : (Int16.ofInt n).toInt32 = v) (k : Go X M Q n0 cn sn (pc + 3) L (.int v :: st) w) : Go X M Q n0 cn sn pc L st w := by
  intro p l e s m args below meth c D ad0 ad tC A H locs ls Z hC hK hX hR hl hZ
  exact lv_sipush hC.1 hC.2.1 hd hv (k p l e s m args below meth c D ad0 ad tC A H locs ls Z hC hK hX hR hl hZ)
theorem go_lconst {n : Fin 2} (v : Int64) (hd : decode M.2.1 pc = .ok (.lconst n, 1)) (hv : Int64.ofNat (n : Nat) = v) (k : Go X M Q n0 cn sn (pc + 1) L (.long v :: st) w) : Go X M Q n0 cn sn pc L st w := by
  intro p l e s m args below meth c D ad0 ad tC A H locs ls Z hC hK hX hR hl hZ
  exact lv_lconst hC.1 hC.2.1 hd hv (k p l e s m args below meth c D ad0 ad tC A H locs ls Z hC hK hX hR hl hZ)
theorem go_ldc {i : Nat} {v : Int32} (hd : decode M.2.1 pc = .ok (.ldc i, 2)) (hc : Cond.constant M.1.cls i v ∈ tb) (k : Go X M Q n0 cn sn (pc + 2) L (.int v :: st) w) : Go X M Q n0 cn sn pc L st w := by
  intro p l e s m args below meth c D ad0 ad tC A H locs ls Z hC hK hX hR hl hZ
  exact lv_ldc hC.1 hC.2.1 hC.2.2.2.2.1 (hC.2.2.2.2.2.1 _ hc) hd (k p l e s m args below meth c D ad0 ad tC A H locs ls Z hC hK hX hR hl hZ)
theorem go_ldc_w {i : Nat} {v : Int32} (hd : decode M.2.1 pc = .ok (.ldc_w i, 3)) (hc : Cond.constant M.1.cls i v ∈ tb) (k : Go X M Q n0 cn sn (pc + 3) L (.int v :: st) w) : Go X M Q n0 cn sn pc L st w := by
  intro p l e s m args below meth c D ad0 ad tC A H locs ls Z hC hK hX hR hl hZ
  exact lv_ldcw hC.1 hC.2.1 hC.2.2.2.2.1 (hC.2.2.2.2.2.1 _ hc) hd (k p l e s m args below meth c D ad0 ad tC A H locs ls Z hC hK hX hR hl hZ)
theorem go_ldc2_w {i : Nat} {v : Int64} (hd : decode M.2.1 pc = .ok (.ldc2_w i, 3)) (hc : Cond.constantLong M.1.cls i v ∈ tb) (k : Go X M Q n0 cn sn (pc + 3) L (.long v :: st) w) : Go X M Q n0 cn sn pc L st w := by
  intro p l e s m args below meth c D ad0 ad tC A H locs ls Z hC hK hX hR hl hZ
  exact lv_ldc2 hC.1 hC.2.1 hC.2.2.2.2.1 (hC.2.2.2.2.2.1 _ hc) hd (k p l e s m args below meth c D ad0 ad tC A H locs ls Z hC hK hX hR hl hZ)
theorem go_iload_n {i : Fin 4} {x : Int32} (hd : decode M.2.1 pc = .ok (.iload_n i, 1)) (hv : L[(i : Nat)]? = some (some (.int x))) (k : Go X M Q n0 cn sn (pc + 1) L (.int x :: st) w) : Go X M Q n0 cn sn pc L st w := by
  intro p l e s m args below meth c D ad0 ad tC A H locs ls Z hC hK hX hR hl hZ
  exact lv_iload_n hC.1 hC.2.1 hd rfl (lh_at hl hv) (k p l e s m args below meth c D ad0 ad tC A H locs ls Z hC hK hX hR hl hZ)
theorem go_iload {i : Nat} {x : Int32} (hd : decode M.2.1 pc = .ok (.iload i, 2)) (hv : L[i]? = some (some (.int x))) (k : Go X M Q n0 cn sn (pc + 2) L (.int x :: st) w) : Go X M Q n0 cn sn pc L st w := by
  intro p l e s m args below meth c D ad0 ad tC A H locs ls Z hC hK hX hR hl hZ
  exact lv_iload hC.1 hC.2.1 hd (lh_at hl hv) (k p l e s m args below meth c D ad0 ad tC A H locs ls Z hC hK hX hR hl hZ)
theorem go_lload_n {i : Fin 4} {x : Int64} (hd : decode M.2.1 pc = .ok (.lload_n i, 1)) (hv : L[(i : Nat)]? = some (some (.long x))) (k : Go X M Q n0 cn sn (pc + 1) L (.long x :: st) w) : Go X M Q n0 cn sn pc L st w := by
  intro p l e s m args below meth c D ad0 ad tC A H locs ls Z hC hK hX hR hl hZ
  exact lv_lload_n hC.1 hC.2.1 hd rfl (lh_at hl hv) (k p l e s m args below meth c D ad0 ad tC A H locs ls Z hC hK hX hR hl hZ)
theorem go_lload {i : Nat} {x : Int64} (hd : decode M.2.1 pc = .ok (.lload i, 2)) (hv : L[i]? = some (some (.long x))) (k : Go X M Q n0 cn sn (pc + 2) L (.long x :: st) w) : Go X M Q n0 cn sn pc L st w := by
  intro p l e s m args below meth c D ad0 ad tC A H locs ls Z hC hK hX hR hl hZ
  exact lv_lload hC.1 hC.2.1 hd (lh_at hl hv) (k p l e s m args below meth c D ad0 ad tC A H locs ls Z hC hK hX hR hl hZ)
theorem go_aload_n {i : Fin 4} {x : Nat} (hd : decode M.2.1 pc = .ok (.aload_n i, 1)) (hv : L[(i : Nat)]? = some (some (.ref x))) (k : Go X M Q n0 cn sn (pc + 1) L (.ref x :: st) w) : Go X M Q n0 cn sn pc L st w := by
  intro p l e s m args below meth c D ad0 ad tC A H locs ls Z hC hK hX hR hl hZ
  exact lv_aload_n hC.1 hC.2.1 hd rfl (lh_at hl hv) (k p l e s m args below meth c D ad0 ad tC A H locs ls Z hC hK hX hR hl hZ)
theorem go_aload {i : Nat} {x : Nat} (hd : decode M.2.1 pc = .ok (.aload i, 2)) (hv : L[i]? = some (some (.ref x))) (k : Go X M Q n0 cn sn (pc + 2) L (.ref x :: st) w) : Go X M Q n0 cn sn pc L st w := by
  intro p l e s m args below meth c D ad0 ad tC A H locs ls Z hC hK hX hR hl hZ
  exact lv_aload hC.1 hC.2.1 hd (lh_at hl hv) (k p l e s m args below meth c D ad0 ad tC A H locs ls Z hC hK hX hR hl hZ)
theorem go_istore_n {i : Fin 4} {x : Int32} (hd : decode M.2.1 pc = .ok (.istore_n i, 1)) (hn : (i : Nat) < M.2.2.1) (k : Go X M Q n0 cn sn (pc + 1) (s1 (i : Nat) (.int x) 0 L) st w) : Go X M Q n0 cn sn pc L (.int x :: st) w := by
  intro p l e s m args below meth c D ad0 ad tC A H locs ls Z hC hK hX hR hl hZ
  exact lv_istore_n hC.1 hC.2.1 hd rfl hl hn rfl (fun ls' h => k p l e s m args below meth c D ad0 ad tC A H locs ls' Z hC hK hX hR (lh_s1 (v := .int x) h) hZ)
theorem go_istore {i : Nat} {x : Int32} (hd : decode M.2.1 pc = .ok (.istore i, 2)) (hn : i < M.2.2.1) (k : Go X M Q n0 cn sn (pc + 2) (s1 i (.int x) 0 L) st w) : Go X M Q n0 cn sn pc L (.int x :: st) w := by
  intro p l e s m args below meth c D ad0 ad tC A H locs ls Z hC hK hX hR hl hZ
  exact lv_istore hC.1 hC.2.1 hd hl hn rfl (fun ls' h => k p l e s m args below meth c D ad0 ad tC A H locs ls' Z hC hK hX hR (lh_s1 (v := .int x) h) hZ)
theorem go_lstore_n {i : Fin 4} {x : Int64} (hd : decode M.2.1 pc = .ok (.lstore_n i, 1)) (hn : (i : Nat) + 1 < M.2.2.1) (k : Go X M Q n0 cn sn (pc + 1) (s2 (i : Nat) (.long x) 0 L) st w) : Go X M Q n0 cn sn pc L (.long x :: st) w := by
  intro p l e s m args below meth c D ad0 ad tC A H locs ls Z hC hK hX hR hl hZ
  exact lv_lstore_n hC.1 hC.2.1 hd rfl hl hn rfl (fun ls' h => k p l e s m args below meth c D ad0 ad tC A H locs ls' Z hC hK hX hR (lh_s2 (v := .long x) h) hZ)
theorem go_lstore {i : Nat} {x : Int64} (hd : decode M.2.1 pc = .ok (.lstore i, 2)) (hn : i + 1 < M.2.2.1) (k : Go X M Q n0 cn sn (pc + 2) (s2 i (.long x) 0 L) st w) : Go X M Q n0 cn sn pc L (.long x :: st) w := by
  intro p l e s m args below meth c D ad0 ad tC A H locs ls Z hC hK hX hR hl hZ
  exact lv_lstore hC.1 hC.2.1 hd hl hn rfl (fun ls' h => k p l e s m args below meth c D ad0 ad tC A H locs ls' Z hC hK hX hR (lh_s2 (v := .long x) h) hZ)
theorem go_astore_n {i : Fin 4} {x : Nat} (hd : decode M.2.1 pc = .ok (.astore_n i, 1)) (hn : (i : Nat) < M.2.2.1) (k : Go X M Q n0 cn sn (pc + 1) (s1 (i : Nat) (.ref x) 0 L) st w) : Go X M Q n0 cn sn pc L (.ref x :: st) w := by
  intro p l e s m args below meth c D ad0 ad tC A H locs ls Z hC hK hX hR hl hZ
  exact lv_astore_n hC.1 hC.2.1 hd rfl hl hn rfl (fun ls' h => k p l e s m args below meth c D ad0 ad tC A H locs ls' Z hC hK hX hR (lh_s1 (v := .ref x) h) hZ)
theorem go_astore {i : Nat} {x : Nat} (hd : decode M.2.1 pc = .ok (.astore i, 2)) (hn : i < M.2.2.1) (k : Go X M Q n0 cn sn (pc + 2) (s1 i (.ref x) 0 L) st w) : Go X M Q n0 cn sn pc L (.ref x :: st) w := by
  intro p l e s m args below meth c D ad0 ad tC A H locs ls Z hC hK hX hR hl hZ
  exact lv_astore hC.1 hC.2.1 hd hl hn rfl (fun ls' h => k p l e s m args below meth c D ad0 ad tC A H locs ls' Z hC hK hX hR (lh_s1 (v := .ref x) h) hZ)
theorem go_iinc {i : Nat} {n : Int} {x : Int32} (v : Int32) (hd : decode M.2.1 pc = .ok (.iinc i n, 3)) (hx : L[i]? = some (some (.int x))) (hv : x + Int32.ofInt n = v) (hn : i < M.2.2.1) (k : Go X M Q n0 cn sn (pc + 3) (s1 i (.int v) 0 L) st w) : Go X M Q n0 cn sn pc L st w := by
  intro p l e s m args below meth c D ad0 ad tC A H locs ls Z hC hK hX hR hl hZ
  obtain ⟨j, hj⟩ := List.getElem?_of_mem (gl_mem.mpr ⟨i, .int x, hx, rfl⟩ : (0 + i, gv ad (.int x)) ∈ gl ad 0 L)
  rw [Nat.zero_add] at hj
  exact lv_iinc hC.1 hC.2.1 hd hl hj hv hn rfl (fun ls' h => k p l e s m args below meth c D ad0 ad tC A H locs ls' Z hC hK hX hR (lh_s1 (v := .int v) h) hZ)
theorem go_iadd {x y : Int32} (hd : decode M.2.1 pc = .ok (.iadd, 1)) (k : Go X M Q n0 cn sn (pc + 1) L (.int (x + y) :: st) w) : Go X M Q n0 cn sn pc L (.int y :: .int x :: st) w := by
  intro p l e s m args below meth c D ad0 ad tC A H locs ls Z hC hK hX hR hl hZ
  exact lv_iadd hC.1 hC.2.1 hd (k p l e s m args below meth c D ad0 ad tC A H locs ls Z hC hK hX hR hl hZ)
theorem go_isub {x y : Int32} (hd : decode M.2.1 pc = .ok (.isub, 1)) (k : Go X M Q n0 cn sn (pc + 1) L (.int (x - y) :: st) w) : Go X M Q n0 cn sn pc L (.int y :: .int x :: st) w := by
  intro p l e s m args below meth c D ad0 ad tC A H locs ls Z hC hK hX hR hl hZ
  exact lv_isub hC.1 hC.2.1 hd (k p l e s m args below meth c D ad0 ad tC A H locs ls Z hC hK hX hR hl hZ)
theorem go_imul {x y : Int32} (hd : decode M.2.1 pc = .ok (.imul, 1)) (k : Go X M Q n0 cn sn (pc + 1) L (.int (x * y) :: st) w) : Go X M Q n0 cn sn pc L (.int y :: .int x :: st) w := by
  intro p l e s m args below meth c D ad0 ad tC A H locs ls Z hC hK hX hR hl hZ
  exact lv_imul hC.1 hC.2.1 hd (k p l e s m args below meth c D ad0 ad tC A H locs ls Z hC hK hX hR hl hZ)
theorem go_iand {x y : Int32} (hd : decode M.2.1 pc = .ok (.iand, 1)) (k : Go X M Q n0 cn sn (pc + 1) L (.int (x &&& y) :: st) w) : Go X M Q n0 cn sn pc L (.int y :: .int x :: st) w := by
  intro p l e s m args below meth c D ad0 ad tC A H locs ls Z hC hK hX hR hl hZ
  exact lv_iand hC.1 hC.2.1 hd (k p l e s m args below meth c D ad0 ad tC A H locs ls Z hC hK hX hR hl hZ)
theorem go_ior {x y : Int32} (hd : decode M.2.1 pc = .ok (.ior, 1)) (k : Go X M Q n0 cn sn (pc + 1) L (.int (x ||| y) :: st) w) : Go X M Q n0 cn sn pc L (.int y :: .int x :: st) w := by
  intro p l e s m args below meth c D ad0 ad tC A H locs ls Z hC hK hX hR hl hZ
  exact lv_ior hC.1 hC.2.1 hd (k p l e s m args below meth c D ad0 ad tC A H locs ls Z hC hK hX hR hl hZ)
theorem go_ixor {x y : Int32} (hd : decode M.2.1 pc = .ok (.ixor, 1)) (k : Go X M Q n0 cn sn (pc + 1) L (.int (x ^^^ y) :: st) w) : Go X M Q n0 cn sn pc L (.int y :: .int x :: st) w := by
  intro p l e s m args below meth c D ad0 ad tC A H locs ls Z hC hK hX hR hl hZ
  exact lv_ixor hC.1 hC.2.1 hd (k p l e s m args below meth c D ad0 ad tC A H locs ls Z hC hK hX hR hl hZ)
theorem go_ishl {x y : Int32} (hd : decode M.2.1 pc = .ok (.ishl, 1)) (k : Go X M Q n0 cn sn (pc + 1) L (.int (x <<< (y &&& 31)) :: st) w) : Go X M Q n0 cn sn pc L (.int y :: .int x :: st) w := by
  intro p l e s m args below meth c D ad0 ad tC A H locs ls Z hC hK hX hR hl hZ
  exact lv_ishl hC.1 hC.2.1 hd (k p l e s m args below meth c D ad0 ad tC A H locs ls Z hC hK hX hR hl hZ)
theorem go_ishr {x y : Int32} (hd : decode M.2.1 pc = .ok (.ishr, 1)) (k : Go X M Q n0 cn sn (pc + 1) L (.int (x >>> (y &&& 31)) :: st) w) : Go X M Q n0 cn sn pc L (.int y :: .int x :: st) w := by
  intro p l e s m args below meth c D ad0 ad tC A H locs ls Z hC hK hX hR hl hZ
  exact lv_ishr hC.1 hC.2.1 hd (k p l e s m args below meth c D ad0 ad tC A H locs ls Z hC hK hX hR hl hZ)
theorem go_iushr {x y : Int32} (hd : decode M.2.1 pc = .ok (.iushr, 1)) (k : Go X M Q n0 cn sn (pc + 1) L (.int (x.toUInt32 >>> (y.toUInt32 &&& Int32.toUInt32 31)).toInt32 :: st) w) : Go X M Q n0 cn sn pc L (.int y :: .int x :: st) w := by
  intro p l e s m args below meth c D ad0 ad tC A H locs ls Z hC hK hX hR hl hZ
  exact lv_iushr hC.1 hC.2.1 hd rfl (k p l e s m args below meth c D ad0 ad tC A H locs ls Z hC hK hX hR hl hZ)
theorem go_idiv {x y : Int32} (hd : decode M.2.1 pc = .ok (.idiv, 1)) (hne : ¬ y = 0) (k : Go X M Q n0 cn sn (pc + 1) L (.int (x / y) :: st) w) : Go X M Q n0 cn sn pc L (.int y :: .int x :: st) w := by
  intro p l e s m args below meth c D ad0 ad tC A H locs ls Z hC hK hX hR hl hZ
  exact lv_idiv hC.1 hC.2.1 hd hne (k p l e s m args below meth c D ad0 ad tC A H locs ls Z hC hK hX hR hl hZ)
theorem go_ladd {x y : Int64} (hd : decode M.2.1 pc = .ok (.ladd, 1)) (k : Go X M Q n0 cn sn (pc + 1) L (.long (x + y) :: st) w) : Go X M Q n0 cn sn pc L (.long y :: .long x :: st) w := by
  intro p l e s m args below meth c D ad0 ad tC A H locs ls Z hC hK hX hR hl hZ
  exact lv_ladd hC.1 hC.2.1 hd (k p l e s m args below meth c D ad0 ad tC A H locs ls Z hC hK hX hR hl hZ)
theorem go_lsub {x y : Int64} (hd : decode M.2.1 pc = .ok (.lsub, 1)) (k : Go X M Q n0 cn sn (pc + 1) L (.long (x - y) :: st) w) : Go X M Q n0 cn sn pc L (.long y :: .long x :: st) w := by
  intro p l e s m args below meth c D ad0 ad tC A H locs ls Z hC hK hX hR hl hZ
  exact lv_lsub hC.1 hC.2.1 hd (k p l e s m args below meth c D ad0 ad tC A H locs ls Z hC hK hX hR hl hZ)
theorem go_lmul {x y : Int64} (hd : decode M.2.1 pc = .ok (.lmul, 1)) (k : Go X M Q n0 cn sn (pc + 1) L (.long (x * y) :: st) w) : Go X M Q n0 cn sn pc L (.long y :: .long x :: st) w := by
  intro p l e s m args below meth c D ad0 ad tC A H locs ls Z hC hK hX hR hl hZ
  exact lv_lmul hC.1 hC.2.1 hd (k p l e s m args below meth c D ad0 ad tC A H locs ls Z hC hK hX hR hl hZ)
theorem go_land {x y : Int64} (hd : decode M.2.1 pc = .ok (.land, 1)) (k : Go X M Q n0 cn sn (pc + 1) L (.long (x &&& y) :: st) w) : Go X M Q n0 cn sn pc L (.long y :: .long x :: st) w := by
  intro p l e s m args below meth c D ad0 ad tC A H locs ls Z hC hK hX hR hl hZ
  exact lv_land hC.1 hC.2.1 hd (k p l e s m args below meth c D ad0 ad tC A H locs ls Z hC hK hX hR hl hZ)
theorem go_lshl {x : Int64} {y : Int32} (hd : decode M.2.1 pc = .ok (.lshl, 1)) (k : Go X M Q n0 cn sn (pc + 1) L (.long (x <<< (y.toInt64 &&& 63)) :: st) w) : Go X M Q n0 cn sn pc L (.int y :: .long x :: st) w := by
  intro p l e s m args below meth c D ad0 ad tC A H locs ls Z hC hK hX hR hl hZ
  exact lv_lshl hC.1 hC.2.1 hd rfl (k p l e s m args below meth c D ad0 ad tC A H locs ls Z hC hK hX hR hl hZ)
theorem go_lshr {x : Int64} {y : Int32} (hd : decode M.2.1 pc = .ok (.lshr, 1)) (k : Go X M Q n0 cn sn (pc + 1) L (.long (x >>> (y.toInt64 &&& 63)) :: st) w) : Go X M Q n0 cn sn pc L (.int y :: .long x :: st) w := by
  intro p l e s m args below meth c D ad0 ad tC A H locs ls Z hC hK hX hR hl hZ
  exact lv_lshr hC.1 hC.2.1 hd rfl (k p l e s m args below meth c D ad0 ad tC A H locs ls Z hC hK hX hR hl hZ)
theorem go_i2l {x : Int32} (hd : decode M.2.1 pc = .ok (.i2l, 1)) (k : Go X M Q n0 cn sn (pc + 1) L (.long (x.toInt64) :: st) w) : Go X M Q n0 cn sn pc L (.int x :: st) w := by
  intro p l e s m args below meth c D ad0 ad tC A H locs ls Z hC hK hX hR hl hZ
  exact lv_i2l hC.1 hC.2.1 hd rfl (k p l e s m args below meth c D ad0 ad tC A H locs ls Z hC hK hX hR hl hZ)
theorem go_i2b {x : Int32} (hd : decode M.2.1 pc = .ok (.i2b, 1)) (k : Go X M Q n0 cn sn (pc + 1) L (.int (x.toInt8.toInt32) :: st) w) : Go X M Q n0 cn sn pc L (.int x :: st) w := by
  intro p l e s m args below meth c D ad0 ad tC A H locs ls Z hC hK hX hR hl hZ
  exact lv_i2b hC.1 hC.2.1 hd rfl (k p l e s m args below meth c D ad0 ad tC A H locs ls Z hC hK hX hR hl hZ)
theorem go_i2s {x : Int32} (hd : decode M.2.1 pc = .ok (.i2s, 1)) (k : Go X M Q n0 cn sn (pc + 1) L (.int (x.toInt16.toInt32) :: st) w) : Go X M Q n0 cn sn pc L (.int x :: st) w := by
  intro p l e s m args below meth c D ad0 ad tC A H locs ls Z hC hK hX hR hl hZ
  exact lv_i2s hC.1 hC.2.1 hd rfl (k p l e s m args below meth c D ad0 ad tC A H locs ls Z hC hK hX hR hl hZ)
theorem go_dup {v : Value} (hd : decode M.2.1 pc = .ok (.dup, 1)) (hv : v.category = 1) (k : Go X M Q n0 cn sn (pc + 1) L (v :: v :: st) w) : Go X M Q n0 cn sn pc L (v :: st) w := by
  intro p l e s m args below meth c D ad0 ad tC A H locs ls Z hC hK hX hR hl hZ
  exact lv_dup hC.1 hC.2.1 hd ((gv_cat ad v).trans hv) (k p l e s m args below meth c D ad0 ad tC A H locs ls Z hC hK hX hR hl hZ)
theorem go_dup2 {v u : Value} (hd : decode M.2.1 pc = .ok (.dup2, 1)) (hv : v.category = 1) (hu : u.category = 1) (k : Go X M Q n0 cn sn (pc + 1) L (v :: u :: v :: u :: st) w) : Go X M Q n0 cn sn pc L (v :: u :: st) w := by
  intro p l e s m args below meth c D ad0 ad tC A H locs ls Z hC hK hX hR hl hZ
  exact lv_dup2_11 hC.1 hC.2.1 hd ((gv_cat ad v).trans hv) ((gv_cat ad u).trans hu) (k p l e s m args below meth c D ad0 ad tC A H locs ls Z hC hK hX hR hl hZ)
theorem go_pop {v : Value} (hd : decode M.2.1 pc = .ok (.pop, 1)) (hv : v.category = 1) (k : Go X M Q n0 cn sn (pc + 1) L st w) : Go X M Q n0 cn sn pc L (v :: st) w := by
  intro p l e s m args below meth c D ad0 ad tC A H locs ls Z hC hK hX hR hl hZ
  exact lv_pop hC.1 hC.2.1 hd ((gv_cat ad v).trans hv) (k p l e s m args below meth c D ad0 ad tC A H locs ls Z hC hK hX hR hl hZ)
theorem go_if_eq {x : Int32} {off : Int} (tgt : Nat) (hd : decode M.2.1 pc = .ok (.ifCond .eq off, 3)) (ht : (pc : Int) + off = (tgt : Int)) (k : x = 0 → Go X M Q n0 cn sn tgt L st w) (k2 : ¬ x = 0 → Go X M Q n0 cn sn (pc + 3) L st w) : Go X M Q n0 cn sn pc L (.int x :: st) w := by
  intro p l e s m args below meth c D ad0 ad tC A H locs ls Z hC hK hX hR hl hZ
  exact lv_if_eq hC.1 hC.2.1 hd ht (fun q => k q p l e s m args below meth c D ad0 ad tC A H locs ls Z hC hK hX hR hl hZ) (fun q => k2 q p l e s m args below meth c D ad0 ad tC A H locs ls Z hC hK hX hR hl hZ)
theorem go_icmp_eq {x y : Int32} {off : Int} (tgt : Nat) (hd : decode M.2.1 pc = .ok (.if_icmp .eq off, 3)) (ht : (pc : Int) + off = (tgt : Int)) (k : x = y → Go X M Q n0 cn sn tgt L st w) (k2 : ¬ x = y → Go X M Q n0 cn sn (pc + 3) L st w) : Go X M Q n0 cn sn pc L (.int y :: .int x :: st) w := by
  intro p l e s m args below meth c D ad0 ad tC A H locs ls Z hC hK hX hR hl hZ
  exact lv_icmp_eq hC.1 hC.2.1 hd ht (fun q => k q p l e s m args below meth c D ad0 ad tC A H locs ls Z hC hK hX hR hl hZ) (fun q => k2 q p l e s m args below meth c D ad0 ad tC A H locs ls Z hC hK hX hR hl hZ)
theorem go_if_ne {x : Int32} {off : Int} (tgt : Nat) (hd : decode M.2.1 pc = .ok (.ifCond .ne off, 3)) (ht : (pc : Int) + off = (tgt : Int)) (k : ¬ x = 0 → Go X M Q n0 cn sn tgt L st w) (k2 : x = 0 → Go X M Q n0 cn sn (pc + 3) L st w) : Go X M Q n0 cn sn pc L (.int x :: st) w := by
  intro p l e s m args below meth c D ad0 ad tC A H locs ls Z hC hK hX hR hl hZ
  exact lv_if_ne hC.1 hC.2.1 hd ht (fun q => k q p l e s m args below meth c D ad0 ad tC A H locs ls Z hC hK hX hR hl hZ) (fun q => k2 q p l e s m args below meth c D ad0 ad tC A H locs ls Z hC hK hX hR hl hZ)
theorem go_icmp_ne {x y : Int32} {off : Int} (tgt : Nat) (hd : decode M.2.1 pc = .ok (.if_icmp .ne off, 3)) (ht : (pc : Int) + off = (tgt : Int)) (k : ¬ x = y → Go X M Q n0 cn sn tgt L st w) (k2 : x = y → Go X M Q n0 cn sn (pc + 3) L st w) : Go X M Q n0 cn sn pc L (.int y :: .int x :: st) w := by
  intro p l e s m args below meth c D ad0 ad tC A H locs ls Z hC hK hX hR hl hZ
  exact lv_icmp_ne hC.1 hC.2.1 hd ht (fun q => k q p l e s m args below meth c D ad0 ad tC A H locs ls Z hC hK hX hR hl hZ) (fun q => k2 q p l e s m args below meth c D ad0 ad tC A H locs ls Z hC hK hX hR hl hZ)
theorem go_if_lt {x : Int32} {off : Int} (tgt : Nat) (hd : decode M.2.1 pc = .ok (.ifCond .lt off, 3)) (ht : (pc : Int) + off = (tgt : Int)) (k : x < 0 → Go X M Q n0 cn sn tgt L st w) (k2 : ¬ x < 0 → Go X M Q n0 cn sn (pc + 3) L st w) : Go X M Q n0 cn sn pc L (.int x :: st) w := by
  intro p l e s m args below meth c D ad0 ad tC A H locs ls Z hC hK hX hR hl hZ
  exact lv_if_lt hC.1 hC.2.1 hd ht (fun q => k q p l e s m args below meth c D ad0 ad tC A H locs ls Z hC hK hX hR hl hZ) (fun q => k2 q p l e s m args below meth c D ad0 ad tC A H locs ls Z hC hK hX hR hl hZ)
theorem go_icmp_lt {x y : Int32} {off : Int} (tgt : Nat) (hd : decode M.2.1 pc = .ok (.if_icmp .lt off, 3)) (ht : (pc : Int) + off = (tgt : Int)) (k : x < y → Go X M Q n0 cn sn tgt L st w) (k2 : ¬ x < y → Go X M Q n0 cn sn (pc + 3) L st w) : Go X M Q n0 cn sn pc L (.int y :: .int x :: st) w := by
  intro p l e s m args below meth c D ad0 ad tC A H locs ls Z hC hK hX hR hl hZ
  exact lv_icmp_lt hC.1 hC.2.1 hd ht (fun q => k q p l e s m args below meth c D ad0 ad tC A H locs ls Z hC hK hX hR hl hZ) (fun q => k2 q p l e s m args below meth c D ad0 ad tC A H locs ls Z hC hK hX hR hl hZ)
theorem go_if_ge {x : Int32} {off : Int} (tgt : Nat) (hd : decode M.2.1 pc = .ok (.ifCond .ge off, 3)) (ht : (pc : Int) + off = (tgt : Int)) (k : 0 ≤ x → Go X M Q n0 cn sn tgt L st w) (k2 : ¬ 0 ≤ x → Go X M Q n0 cn sn (pc + 3) L st w) : Go X M Q n0 cn sn pc L (.int x :: st) w := by
  intro p l e s m args below meth c D ad0 ad tC A H locs ls Z hC hK hX hR hl hZ
  exact lv_if_ge hC.1 hC.2.1 hd ht (fun q => k q p l e s m args below meth c D ad0 ad tC A H locs ls Z hC hK hX hR hl hZ) (fun q => k2 q p l e s m args below meth c D ad0 ad tC A H locs ls Z hC hK hX hR hl hZ)
theorem go_icmp_ge {x y : Int32} {off : Int} (tgt : Nat) (hd : decode M.2.1 pc = .ok (.if_icmp .ge off, 3)) (ht : (pc : Int) + off = (tgt : Int)) (k : y ≤ x → Go X M Q n0 cn sn tgt L st w) (k2 : ¬ y ≤ x → Go X M Q n0 cn sn (pc + 3) L st w) : Go X M Q n0 cn sn pc L (.int y :: .int x :: st) w := by
  intro p l e s m args below meth c D ad0 ad tC A H locs ls Z hC hK hX hR hl hZ
  exact lv_icmp_ge hC.1 hC.2.1 hd ht (fun q => k q p l e s m args below meth c D ad0 ad tC A H locs ls Z hC hK hX hR hl hZ) (fun q => k2 q p l e s m args below meth c D ad0 ad tC A H locs ls Z hC hK hX hR hl hZ)
theorem go_if_gt {x : Int32} {off : Int} (tgt : Nat) (hd : decode M.2.1 pc = .ok (.ifCond .gt off, 3)) (ht : (pc : Int) + off = (tgt : Int)) (k : 0 < x → Go X M Q n0 cn sn tgt L st w) (k2 : ¬ 0 < x → Go X M Q n0 cn sn (pc + 3) L st w) : Go X M Q n0 cn sn pc L (.int x :: st) w := by
  intro p l e s m args below meth c D ad0 ad tC A H locs ls Z hC hK hX hR hl hZ
  exact lv_if_gt hC.1 hC.2.1 hd ht (fun q => k q p l e s m args below meth c D ad0 ad tC A H locs ls Z hC hK hX hR hl hZ) (fun q => k2 q p l e s m args below meth c D ad0 ad tC A H locs ls Z hC hK hX hR hl hZ)
theorem go_icmp_gt {x y : Int32} {off : Int} (tgt : Nat) (hd : decode M.2.1 pc = .ok (.if_icmp .gt off, 3)) (ht : (pc : Int) + off = (tgt : Int)) (k : y < x → Go X M Q n0 cn sn tgt L st w) (k2 : ¬ y < x → Go X M Q n0 cn sn (pc + 3) L st w) : Go X M Q n0 cn sn pc L (.int y :: .int x :: st) w := by
  intro p l e s m args below meth c D ad0 ad tC A H locs ls Z hC hK hX hR hl hZ
  exact lv_icmp_gt hC.1 hC.2.1 hd ht (fun q => k q p l e s m args below meth c D ad0 ad tC A H locs ls Z hC hK hX hR hl hZ) (fun q => k2 q p l e s m args below meth c D ad0 ad tC A H locs ls Z hC hK hX hR hl hZ)
theorem go_if_le {x : Int32} {off : Int} (tgt : Nat) (hd : decode M.2.1 pc = .ok (.ifCond .le off, 3)) (ht : (pc : Int) + off = (tgt : Int)) (k : x ≤ 0 → Go X M Q n0 cn sn tgt L st w) (k2 : ¬ x ≤ 0 → Go X M Q n0 cn sn (pc + 3) L st w) : Go X M Q n0 cn sn pc L (.int x :: st) w := by
  intro p l e s m args below meth c D ad0 ad tC A H locs ls Z hC hK hX hR hl hZ
  exact lv_if_le hC.1 hC.2.1 hd ht (fun q => k q p l e s m args below meth c D ad0 ad tC A H locs ls Z hC hK hX hR hl hZ) (fun q => k2 q p l e s m args below meth c D ad0 ad tC A H locs ls Z hC hK hX hR hl hZ)
theorem go_icmp_le {x y : Int32} {off : Int} (tgt : Nat) (hd : decode M.2.1 pc = .ok (.if_icmp .le off, 3)) (ht : (pc : Int) + off = (tgt : Int)) (k : x ≤ y → Go X M Q n0 cn sn tgt L st w) (k2 : ¬ x ≤ y → Go X M Q n0 cn sn (pc + 3) L st w) : Go X M Q n0 cn sn pc L (.int y :: .int x :: st) w := by
  intro p l e s m args below meth c D ad0 ad tC A H locs ls Z hC hK hX hR hl hZ
  exact lv_icmp_le hC.1 hC.2.1 hd ht (fun q => k q p l e s m args below meth c D ad0 ad tC A H locs ls Z hC hK hX hR hl hZ) (fun q => k2 q p l e s m args below meth c D ad0 ad tC A H locs ls Z hC hK hX hR hl hZ)
theorem go_goto {off : Int} (tgt : Nat) (hd : decode M.2.1 pc = .ok (.goto off, 3)) (ht : (pc : Int) + off = (tgt : Int)) (k : Go X M Q n0 cn sn tgt L st w) : Go X M Q n0 cn sn pc L st w := by
  intro p l e s m args below meth c D ad0 ad tC A H locs ls Z hC hK hX hR hl hZ
  exact lv_goto hC.1 hC.2.1 hd ht (k p l e s m args below meth c D ad0 ad tC A H locs ls Z hC hK hX hR hl hZ)
theorem go_irem {x y : Int32} (hd : decode M.2.1 pc = .ok (.irem, 1)) (hne : ¬ y = 0) (k : Go X M Q n0 cn sn (pc + 1) L (.int (x - x / y * y) :: st) w) : Go X M Q n0 cn sn pc L (.int y :: .int x :: st) w := by
  intro p l e s m args below meth c D ad0 ad tC A H locs ls Z hC hK hX hR hl hZ
  exact lv_irem hC.1 hC.2.1 hd hne (k p l e s m args below meth c D ad0 ad tC A H locs ls Z hC hK hX hR hl hZ)
theorem go_ldiv {x y : Int64} (hd : decode M.2.1 pc = .ok (.ldiv, 1)) (hne : ¬ y = 0) (k : Go X M Q n0 cn sn (pc + 1) L (.long (x / y) :: st) w) : Go X M Q n0 cn sn pc L (.long y :: .long x :: st) w := by
  intro p l e s m args below meth c D ad0 ad tC A H locs ls Z hC hK hX hR hl hZ
  exact lv_ldiv hC.1 hC.2.1 hd hne (k p l e s m args below meth c D ad0 ad tC A H locs ls Z hC hK hX hR hl hZ)
theorem go_lrem {x y : Int64} (hd : decode M.2.1 pc = .ok (.lrem, 1)) (hne : ¬ y = 0) (k : Go X M Q n0 cn sn (pc + 1) L (.long (x - x / y * y) :: st) w) : Go X M Q n0 cn sn pc L (.long y :: .long x :: st) w := by
  intro p l e s m args below meth c D ad0 ad tC A H locs ls Z hC hK hX hR hl hZ
  exact lv_lrem hC.1 hC.2.1 hd hne (k p l e s m args below meth c D ad0 ad tC A H locs ls Z hC hK hX hR hl hZ)
theorem go_lcmp {x y : Int64} (hd : decode M.2.1 pc = .ok (.lcmp, 1)) (k : Go X M Q n0 cn sn (pc + 1) L (.int (lg_cmp x y) :: st) w) : Go X M Q n0 cn sn pc L (.long y :: .long x :: st) w := by
  intro p l e s m args below meth c D ad0 ad tC A H locs ls Z hC hK hX hR hl hZ
  exact W.lcmp hC.1 hC.2.1 hd (k p l e s m args below meth c D ad0 ad tC A H locs ls Z hC hK hX hR hl hZ)
theorem go_tblIn {dflt lo hi : Int} {offs : Array Int} {len : Nat} {x : Int32} {off : Int} (tgt : Nat) (hd : decode M.2.1 pc = .ok (.tableswitch dflt lo hi offs, len)) (h1 : ¬ x.toInt < lo) (h2 : ¬ hi < x.toInt) (ho : offs[(x.toInt - lo).toNat]? = some off) (ht : (pc : Int) + off = (tgt : Int)) (k : Go X M Q n0 cn sn tgt L st w) : Go X M Q n0 cn sn pc L (.int x :: st) w := by
  intro p l e s m args below meth c D ad0 ad tC A H locs ls Z hC hK hX hR hl hZ
  exact lv_tableIn hC.1 hC.2.1 hd h1 h2 ho ht (k p l e s m args below meth c D ad0 ad tC A H locs ls Z hC hK hX hR hl hZ)
theorem go_tblOut {dflt lo hi : Int} {offs : Array Int} {len : Nat} {x : Int32} (tgt : Nat) (hd : decode M.2.1 pc = .ok (.tableswitch dflt lo hi offs, len)) (h : x.toInt < lo ∨ hi < x.toInt) (ht : (pc : Int) + dflt = (tgt : Int)) (k : Go X M Q n0 cn sn tgt L st w) : Go X M Q n0 cn sn pc L (.int x :: st) w := by
  intro p l e s m args below meth c D ad0 ad tC A H locs ls Z hC hK hX hR hl hZ
  exact lv_tableOut hC.1 hC.2.1 hd h ht (k p l e s m args below meth c D ad0 ad tC A H locs ls Z hC hK hX hR hl hZ)
theorem go_lookup {dflt : Int} {ps : Array (Int × Int)} {len : Nat} {x : Int32} {off : Int} (tgt : Nat) (hd : decode M.2.1 pc = .ok (.lookupswitch dflt ps, len)) (hp : (ps.toList.zip (ps.toList.drop 1)).all (fun (a, next) => a.1 < next.1) = true) (ho : Op.lookupswitch.offset ps.toList dflt x.toInt = off) (ht : (pc : Int) + off = (tgt : Int)) (k : Go X M Q n0 cn sn tgt L st w) : Go X M Q n0 cn sn pc L (.int x :: st) w := by
  intro p l e s m args below meth c D ad0 ad tC A H locs ls Z hC hK hX hR hl hZ
  exact lv_lookup hC.1 hC.2.1 hd hp ho ht (k p l e s m args below meth c D ad0 ad tC A H locs ls Z hC hK hX hR hl hZ)
end Rows
