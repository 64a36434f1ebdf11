def rho (ps : List Nat) (n j : Nat) : Nat := match ps[j]? with
  | some i => i
  | none => n + (j - ps.length)
def mgp (r : Nat → Nat) : List Nat → List AE → List AE → List AE
  | i :: ps, e :: w1, w => mgp r ps w1 (w.set i (rn r e))
  | _, _, w => w
theorem mgp_len (r : Nat → Nat) : ∀ (ps : List Nat) (w1 w : List AE), (mgp r ps w1 w).length = w.length
  | [], _, w => rfl
  | i :: ps, [], w => rfl
  | i :: ps, e :: w1, w => by rw [mgp, mgp_len r ps w1, List.length_set]
theorem mgp_out (r : Nat → Nat) : ∀ (ps : List Nat) (w1 w : List AE) (k : Nat), k ∉ ps → (mgp r ps w1 w)[k]? = w[k]?
  | [], _, w, k, _ => rfl
  | i :: ps, [], w, k, _ => rfl
  | i :: ps, e :: w1, w, k, h => by
    rw [mgp, mgp_out r ps w1 _ k (fun q => h (List.mem_cons_of_mem _ q)), List.getElem?_set_ne (fun q => h (by rw [q]; exact List.mem_cons_self))]
theorem mgp_in (r : Nat → Nat) : ∀ (ps : List Nat) (w1 w : List AE) (j i : Nat) (e : AE), va_nd ps = true → ps[j]? = some i → w1[j]? = some e → i < w.length → (mgp r ps w1 w)[i]? = some (rn r e)
  | [], _, w, j, i, e, _, h, _, _ => by simp at h
  | a :: ps, [], w, j, i, e, _, _, h, _ => by simp at h
  | a :: ps, b :: w1, w, 0, i, e, hn, h1, h2, h3 => by
    simp at h1 h2
    subst h1; subst h2
    have hno : a ∉ ps := fun q => by
      obtain ⟨k, hk⟩ := List.getElem?_of_mem q
      have := va_nd_inj _ hn 0 (k + 1) a rfl (by simpa using hk)
      omega
    rw [mgp, mgp_out r ps w1 _ a hno, List.getElem?_set_self h3]
  | a :: ps, b :: w1, w, j + 1, i, e, hn, h1, h2, h3 => by
    have hn2 : va_nd ps = true := by
      simp only [va_nd, Bool.and_eq_true] at hn
      exact hn.2
    rw [mgp]
    exact mgp_in r ps w1 _ j i e hn2 (by simpa using h1) (by simpa using h2) (by rw [List.length_set]; exact h3)
theorem rho_in {ps : List Nat} {n j i : Nat} (h : ps[j]? = some i) : rho ps n j = i := by simp [rho, h]
theorem hw_at {w wc : List AE} {r : Nat → Nat} {ps : List Nat} (hw : ps.map (fun i => w[i]?) = wc.map (fun e => some (rn r e))) {j : Nat} {e : AE} (h : wc[j]? = some e) : ∃ i, ps[j]? = some i ∧ w[i]? = some (rn r e) := by
  have h1 : (ps.map (fun i => w[i]?))[j]? = some (some (rn r e)) := by rw [hw, List.getElem?_map, h]; rfl
  rw [List.getElem?_map] at h1
  cases hi : ps[j]? with
  | none => rw [hi] at h1; cases h1
  | some i => rw [hi] at h1; exact ⟨i, rfl, Option.some.inj h1⟩
theorem hw_len {w wc : List AE} {r : Nat → Nat} {ps : List Nat} (hw : ps.map (fun i => w[i]?) = wc.map (fun e => some (rn r e))) : wc.length = ps.length := by
  have := congrArg List.length hw
  simpa using this.symm
theorem gi {ws : List Cond} (h : ∀ w ∈ ws, w ∈ tb) : GoodIn tb ws := fun w hw => ⟨h w hw, good_of_word (tb_out (h w hw)).2⟩
section Calls9
variable {X : (Nat → Nat) → State → (Nat → Prop) → Prop} {M z : MD} {Q Qz : Option Value → List AE → Prop} {n0 cn sn pc : Nat} {L : List (Option Value)} {st : List Value} {w wc : List AE}
variable {p : Program} {l : Launch} {e : Env} {s : State} {m : MethodId} {args : Array Value} {below : List Frame} {meth : Method} {c : Code} {D : va_G} {ad0 ad tC : Nat → Nat} {A : Nat → Prop} {H : Heap} {locs : List Loc} {ls : Array Slot} {Z : State → Prop}
/-- the callee's world at the call -/
theorem cw_P (hR : Rl D tC A n0 ad0 ad w s H locs) {ps : List Nat} (hw : ps.map (fun i => w[i]?) = wc.map (fun e => some (rn (rho ps w.length) e))) : va_P D vwCl (gw (fun k => ad (rho ps w.length k)) tC wc) H := by
  rw [gw_P]
  intro j e he
  obtain ⟨i, h1, h2⟩ := hw_at hw he
  have h3 := gw_P.mp hR.1 i _ h2
  rw [ge_rn] at h3
  rw [rho_in h1]
  exact h3
theorem cw_D (hR : Rl D tC A n0 ad0 ad w s H locs) {ps : List Nat} (hw : ps.map (fun i => w[i]?) = wc.map (fun e => some (rn (rho ps w.length) e))) (hnd : va_nd ps = true) : DA A (fun k => ad (rho ps w.length k)) wc.length := by
  have hD := gw_D.mp hR.2.1
  have key : ∀ j, j < wc.length → ∃ i, ps[j]? = some i ∧ i < w.length := fun j hj => by
    obtain ⟨i, h1, h2⟩ := hw_at hw (List.getElem?_eq_getElem hj)
    exact ⟨i, h1, (List.getElem?_eq_some_iff.mp h2).1⟩
  refine ⟨fun i j hi hj h => ?_, fun k hk => ?_⟩
  · obtain ⟨a, a1, a2⟩ := key i hi
    obtain ⟨b, b1, b2⟩ := key j hj
    simp only [rho_in a1, rho_in b1] at h
    have := hD.1 a b a2 b2 h
    subst this
    exact va_nd_inj _ hnd i j a a1 b1
  · obtain ⟨a, a1, a2⟩ := key k hk
    simp only [rho_in a1]
    exact hD.2 a a2
theorem cw_A (hR : Rl D tC A n0 ad0 ad w s H locs) {ps : List Nat} (hw : ps.map (fun i => w[i]?) = wc.map (fun e => some (rn (rho ps w.length) e))) (hnd : va_nd ps = true) : ∀ q, va_A (gw (fun k => ad (rho ps w.length k)) tC wc) H.size q → A q := by
  rintro q (⟨k, e, h⟩ | h)
  · obtain ⟨e1, h1, h2⟩ := gw_inv h
    have h3 := (cw_D hR hw hnd).2 k (List.getElem?_eq_some_iff.mp h1).1
    have h4 := congrArg Prod.fst h2
    simp only at h4
    rw [h4]
    exact h3
  · exact hR.2.2.2.1 q (Nat.le_trans hR.2.2.1.1 h)
theorem Rl_lt (hR : Rl D tC A n0 ad0 ad w s H locs) {k : Nat} (hk : k < w.length) : ad k < H.size := (gw_P.mp hR.1 k _ (List.getElem?_eq_getElem hk)).lt
theorem cw_not (hR : Rl D tC A n0 ad0 ad w s H locs) {ps : List Nat} (hw : ps.map (fun i => w[i]?) = wc.map (fun e => some (rn (rho ps w.length) e))) {k : Nat} (hk : k < w.length) (hn : k ∉ ps) : ¬ va_A (gw (fun k => ad (rho ps w.length k)) tC wc) H.size (ad k) := by
  rintro (⟨j, e, h⟩ | h)
  · obtain ⟨e1, h1, h2⟩ := gw_inv h
    obtain ⟨i, h3, h4⟩ := hw_at hw h1
    have h5 := congrArg Prod.fst h2
    simp only [rho_in h3] at h5
    have := (gw_D.mp hR.2.1).1 k i hk (List.getElem?_eq_some_iff.mp h4).1 h5
    subst this
    exact hn (List.mem_of_getElem? h3)
  · exact absurd (Rl_lt hR hk) (by omega)
abbrev Qca (z : MD) (Qz : Option Value → List AE → Prop) (D : va_G) (tC adc : Nat → Nat) (wc : List AE) (sz : Nat) : State → Outcome → State → Prop := fun st oc t => (∃ (v : Option Value) (w1 : List AE) (ad1 : Nat → Nat), oc = .returned (v.map (gv ad1)) ∧ Qz v w1 ∧ adx wc.length w1.length adc ad1 ∧ va_P D vwCl (gw ad1 tC w1) t.heap ∧ va_D (va_A (gw adc tC wc) sz) (gw ad1 tC w1)) ∧ va_F (va_A (gw adc tC wc) sz) st t
theorem toList_map {f : Value → Value} (v : Option Value) : (v.map f).toList = v.toList.map f := by cases v <;> rfl
theorem call_core {mc ms : Nat} {ps : List Nat} {rest st0 : List Value} (hC : Cx M p s m args meth c) (hK : KK D tC s) (hX : X ad0 s A) (hR : Rl D tC A n0 ad0 ad w s H locs) (hl : lh ls M.2.2.1 ad L) (hZ : Rt M p l e s m args below meth c D tC A n0 ad0 Q Z)
    (hw : ps.map (fun i => w[i]?) = wc.map (fun e => some (rn (rho ps w.length) e))) (hnd : va_nd ps = true) (hQ : ∀ v w1, Qz v w1 → w1.length = ps.length)
    (k : ∀ v w1, Qz v w1 → Go X M Q n0 (cn + mc) (sn + ms) (pc + 3) L ((v.map (gv (rho ps w.length))).toList ++ rest) (mgp (rho ps w.length) ps w1 w))
    (hr : va_Run p l e M.2.2.2.2 s m args below meth c H locs cn sn mc ms (F0 m pc ls st0) (rest.map (gv ad)) (Qca z Qz D tC (fun k => ad (rho ps w.length k)) wc H.size) (va_A (gw (fun k => ad (rho ps w.length k)) tC wc) H.size)) :
    W p l e M.2.2.2.2 s m args below meth c H locs cn sn Z (F0 m pc ls st0) := by
  intro T hT XX
  obtain ⟨v, st₀, t, T', L', h0, X', hL, e1, e2, ⟨⟨v1, w1, ad1, hv, hq, hadx, hP1, hD1⟩, hz, hk⟩, stp⟩ := hr T hT XX
  have hAA := cw_A hR hw hnd
  have hlen := hQ v1 w1 hq
  have hwl := hw_len hw
  have had : ad1 = fun k => ad (rho ps w.length k) := hadx.2.2 (by omega)
  subst had
  cases hv
  rw [h0] at hz hk
  have hR' : Rl D tC A n0 ad0 ad (mgp (rho ps w.length) ps w1 w) s T'.heap (locs ++ L') := by
    have g := hR.2.2.1
    refine ⟨gw_P.mpr fun k e he => ?_, gw_D.mpr (by rw [mgp_len]; exact gw_D.mp hR.2.1), ⟨Nat.le_trans g.1 (by rw [e1]; exact hz), fun q h1 h2 => by rw [e1, hk q (Nat.lt_of_lt_of_le h1 g.1) (fun y => h2 (hAA q y))]; exact g.2.1 q h1 h2, fun q hq => ?_⟩, hR.2.2.2.1, by rw [mgp_len]; exact hR.2.2.2.2.1, hR.2.2.2.2.2.1, fun q => hR.2.2.2.2.2.2.1 (by rw [← q, mgp_len]), hR.2.2.2.2.2.2.2⟩
    · have hkl : k < w.length := by
        have := (List.getElem?_eq_some_iff.mp he).1
        rwa [mgp_len] at this
      by_cases hin : k ∈ ps
      · obtain ⟨j, hj⟩ := List.getElem?_of_mem hin
        have hjl : j < w1.length := by rw [hlen]; exact (List.getElem?_eq_some_iff.mp hj).1
        have h3 := mgp_in (rho ps w.length) ps w1 w j k _ hnd hj (List.getElem?_eq_getElem hjl) hkl
        rw [he] at h3
        cases h3
        have h4 := gw_P.mp hP1 j _ (List.getElem?_eq_getElem hjl)
        rw [rho_in hj] at h4
        rw [ge_rn, e1]
        exact h4
      · rw [mgp_out _ _ _ _ _ hin] at he
        refine (gw_P.mp hR.1 k e he).kept ?_
        rw [e1]
        exact hk _ (Rl_lt hR hkl) (cw_not hR hw hkl hin)
    · rcases List.mem_append.mp hq with h | h
      · exact g.2.2 q h
      · exact hAA _ (hL q h)
  obtain ⟨t2, a1, b1⟩ := k v1 w1 hq p l e s m args below meth c D ad0 ad tC A T'.heap (locs ++ L') ls Z hC hK hX hR' hl hZ T' rfl X'
  refine ⟨t2, stp t2 ?_, b1⟩
  rw [List.map_append, ← toList_map, Option.map_map] at a1
  have e3 : (gv ad ∘ gv (rho ps w.length)) = gv (fun k => ad (rho ps w.length k)) := funext fun v => gv_gv ad _ v
  rw [e3] at a1
  exact a1
theorem ev_blind {av : List Value} {sz : Nat} : FrameBlind (va_Pc (av.map (gv ad)) (fun U => U.heap.size = sz ∧ va_P D vwCl (gw ad tC w) U.heap ∧ KK D tC U ∧ va_D (fun _ => True) (gw ad tC w))) := by
  rintro a U g mk ⟨q0, q1, q2, q3, q4⟩
  exact ⟨q0, q1, q2, q3.blind, q4⟩
theorem av_map {ps : List Nat} {n : Nat} (av : List Value) : (av.map (gv (rho ps n))).map (gv ad) = av.map (gv (fun k => ad (rho ps n k))) := by
  rw [List.map_map]
  congr 1
  funext v
  exact gv_gv ad _ v
end Calls9
/-- the callee's room fits the caller's -/
def Fit (M z : MD) (cn sn : Nat) : Prop := (z.2.2.2.2.frames + 1 ≤ M.2.2.2.2.frames ∧ 8 + (z.2.2.1 + 11) + z.2.2.2.2.locals ≤ M.2.2.2.2.locals) ∧ cn + z.2.2.2.2.cells ≤ M.2.2.2.2.cells ∧ sn + z.2.2.2.2.slots ≤ M.2.2.2.2.slots
section Calls8
variable {X : (Nat → Nat) → State → (Nat → Prop) → Prop} {M z : MD} {Q Qz : Option Value → List AE → Prop} {n0 cn sn pc : Nat} {L : List (Option Value)} {st : List Value} {w wc : List AE}
set_option maxHeartbeats 1000000 in
theorem go_callS {i n : Nat} {av rest : List Value} (ps : List Nat) (hd : decode M.2.1 pc = .ok (.invokestatic i, 3)) (hlk : Cond.methodLink M.1.cls i z.1 ∈ tb) (hz : CS z n) (hE : Ev z av wc Qz) (hst : st = (av.map (gv (rho ps w.length))).reverse ++ rest) (hw : ps.map (fun i => w[i]?) = wc.map (fun e => some (rn (rho ps w.length) e))) (hnd : va_nd ps = true) (hn : av.length = n) (hF : Fit M z cn sn) (hrest : (rest.map fun v => v.category).sum ≤ 8) (hQ : ∀ v w1, Qz v w1 → w1.length = ps.length)
    (k : ∀ v w1, Qz v w1 → Go X M Q n0 (cn + z.2.2.2.2.cells) (sn + z.2.2.2.2.slots) (pc + 3) L ((v.map (gv (rho ps w.length))).toList ++ rest) (mgp (rho ps w.length) ps w1 w)) : Go X M Q n0 cn sn pc L st w := by
  intro p l e s m args below meth c D ad0 ad tC A H locs ls Z hC hK hX hR hl hZ
  have hts := hC.2.2.2.2.2.1
  refine call_core (z := z) (rest := rest) hC hK hX hR hl hZ hw hnd hQ k ?_
  refine va_runS (As := av.map (gv (fun k => ad (rho ps w.length k)))) ⟨hC.1, hC.2.1, hC.2.2.1, hC.2.2.2.2.1, hts⟩ (hE l D tC _ H.size) (va_cwS n hts (gi fun x hx => ?_) rfl rfl rfl hz.1.2.1 hF.1) ⟨ev_blind, fun U hU hW => ⟨rfl, by rw [hU], by rw [hU]; exact cw_P hR hw, hK.warm hW, gw_D.mpr ⟨(cw_D hR hw hnd).1, fun _ _ => trivial⟩⟩⟩ rfl (by rw [List.length_map]; exact hn) hl.1 ?_ (lv_room ?_) hd hF.2
  · simp only [va_wsS, List.mem_append, List.mem_cons, List.not_mem_nil, or_false] at hx
    rcases hx with (rfl | rfl | rfl) | rfl | hx
    · exact hlk
    · exact hz.2
    · exact hz.1.2.2.2
    · exact hz.1.2.2.1
    · exact hx
  · show st.map (gv ad) = _
    rw [hst, List.map_append, List.map_reverse, av_map]
  · have e1 : (rest.map (gv ad)).map (fun v => v.category) = rest.map fun v => v.category := by simp [gv_cat]
    rw [e1]; exact hrest
set_option maxHeartbeats 1000000 in
theorem go_callV {i n j ci : Nat} {fs av rest : List Value} (ps : List Nat) (hd : decode M.2.1 pc = .ok (.invokevirtual i, 3)) (hlk : Cond.methodLink M.1.cls i z.1 ∈ tb) (hz : CV z n) (hE : Ev z (.ref j :: av) wc Qz) (hst : st = (av.map (gv (rho ps w.length))).reverse ++ .ref (rho ps w.length j) :: rest) (hw : ps.map (fun i => w[i]?) = wc.map (fun e => some (rn (rho ps w.length) e))) (hnd : va_nd ps = true) (hn : av.length = n) (hrc : wc[j]? = some (zO ci fs)) (hcl : ∃ T N, vwCl[ci]? = some (z.1.cls, T, N)) (hF : Fit M z cn sn) (hrest : (rest.map fun v => v.category).sum ≤ 8) (hQ : ∀ v w1, Qz v w1 → w1.length = ps.length)
    (k : ∀ v w1, Qz v w1 → Go X M Q n0 (cn + z.2.2.2.2.cells) (sn + z.2.2.2.2.slots) (pc + 3) L ((v.map (gv (rho ps w.length))).toList ++ rest) (mgp (rho ps w.length) ps w1 w)) : Go X M Q n0 cn sn pc L st w := by
  intro p l e s m args below meth c D ad0 ad tC A H locs ls Z hC hK hX hR hl hZ
  have hts := hC.2.2.2.2.2.1
  obtain ⟨T, N, hcl⟩ := hcl
  refine call_core (z := z) (rest := rest) hC hK hX hR hl hZ hw hnd hQ k ?_
  refine va_runV (C := z.1.cls) (b := ad (rho ps w.length j)) (As := av.map (gv (fun k => ad (rho ps w.length k)))) ⟨hC.1, hC.2.1, hC.2.2.1, hC.2.2.2.2.1, hts⟩ (hE l D tC _ H.size) (cwV n hts (gi fun x hx => ?_) rfl rfl rfl ⟨rfl, hz.1.2.1⟩ hF.1) ⟨ev_blind, va_recv hK.1 (cw_P hR hw) hcl (gw_at hrc), fun U hU hW => ⟨rfl, by rw [hU], by rw [hU]; exact cw_P hR hw, hK.warm hW, gw_D.mpr ⟨(cw_D hR hw hnd).1, fun _ _ => trivial⟩⟩⟩ rfl (by rw [List.length_map]; exact hn) hl.1 ?_ (lv_room ?_) hd hF.2
  · simp only [wsV, List.mem_append, List.mem_cons, List.not_mem_nil, or_false] at hx
    rcases hx with (rfl | rfl | rfl | rfl) | rfl | hx
    · exact hlk
    · exact hz.2.1
    · exact hz.2.2
    · exact hz.1.2.2.2
    · exact hz.1.2.2.1
    · exact hx
  · show st.map (gv ad) = _
    rw [hst, List.map_append, List.map_reverse, av_map]
    rfl
  · have e1 : (rest.map (gv ad)).map (fun v => v.category) = rest.map fun v => v.category := by simp [gv_cat]
    rw [e1]; exact hrest
set_option maxHeartbeats 1000000 in
theorem go_callI {i n j : Nat} {av rest : List Value} (ps : List Nat) (hd : decode M.2.1 pc = .ok (.invokespecial i, 3)) (hlk : Cond.methodLink M.1.cls i z.1 ∈ tb) (hz : CI z n) (hrt : z.2.2.2.1 = none) (hE : Ev z (.ref j :: av) wc Qz) (hst : st = (av.map (gv (rho ps w.length))).reverse ++ .ref (rho ps w.length j) :: rest) (hw : ps.map (fun i => w[i]?) = wc.map (fun e => some (rn (rho ps w.length) e))) (hnd : va_nd ps = true) (hn : av.length = n) (hF : Fit M z cn sn) (hrest : (rest.map fun v => v.category).sum ≤ 8) (hQ : ∀ v w1, Qz v w1 → w1.length = ps.length)
    (k : ∀ v w1, Qz v w1 → Go X M Q n0 (cn + z.2.2.2.2.cells) (sn + z.2.2.2.2.slots) (pc + 3) L ((v.map (gv (rho ps w.length))).toList ++ rest) (mgp (rho ps w.length) ps w1 w)) : Go X M Q n0 cn sn pc L st w := by
  intro p l e s m args below meth c D ad0 ad tC A H locs ls Z hC hK hX hR hl hZ
  have hts := hC.2.2.2.2.2.1
  refine call_core (z := z) (rest := rest) hC hK hX hR hl hZ hw hnd hQ k ?_
  refine va_runI (bytes := z.2.1) (maxL := z.2.2.1) (ws := wCode z :: tb) (b := ad (rho ps w.length j)) (As := av.map (gv (fun k => ad (rho ps w.length k)))) ⟨hC.1, hC.2.1, hC.2.2.1, hC.2.2.2.2.1, hts⟩ (hE l D tC _ H.size) (cwI n hts (gi fun x hx => ?_) (by show wCode z :: tb = _; unfold wCode; rw [hrt]) rfl rfl (hts _ hz.1.2.2.2) (hts _ hlk) (hts _ hz.2.1) hz.2.2 hz.1.2.1 hF.1) ⟨ev_blind, fun U hU hW => ⟨rfl, by rw [hU], by rw [hU]; exact cw_P hR hw, hK.warm hW, gw_D.mpr ⟨(cw_D hR hw hnd).1, fun _ _ => trivial⟩⟩⟩ rfl (by rw [List.length_map]; exact hn) hl.1 ?_ (lv_room ?_) hd hF.2
  · rcases List.mem_cons.mp hx with rfl | hx
    · exact hz.1.2.2.1
    · exact hx
  · show st.map (gv ad) = _
    rw [hst, List.map_append, List.map_reverse, av_map]
    rfl
  · have e1 : (rest.map (gv ad)).map (fun v => v.category) = rest.map fun v => v.category := by simp [gv_cat]
    rw [e1]; exact hrest
end Calls8
