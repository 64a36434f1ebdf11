/-! a call of a constructor that makes cells: the callee's new cells come behind the caller's -/
def w1x (ps : List Nat) (n : Nat) (w1 w : List AE) : List AE := mgp (rho ps n) ps w1 w ++ (w1.drop ps.length).map (rn (rho ps n))
def adN (ad ad1 : Nat → Nat) (n p k1 : Nat) (k : Nat) : Nat := if n ≤ k ∧ k < n + (k1 - p) then ad1 (k - n + p) else ad k
theorem rho_out {ps : List Nat} {n j : Nat} (h : ps.length ≤ j) : rho ps n j = n + (j - ps.length) := by
  unfold rho
  rw [List.getElem?_eq_none h]
section CtorA
variable {X : (Nat → Nat) → State → (Nat → Prop) → Prop} {M z : MD} {Q : Option Value → List AE → Prop} {n0 cn sn pc : Nat} {L : List (Option Value)} {st : List Value} {w wc w1 : List AE}
variable {p : Program} {l : Launch} {e : Env} {s : State} {m : MethodId} {args : Array Value} {below : List Frame} {meth : Method} {c : Code} {D : va_G} {ad0 ad ad1 tC : Nat → Nat} {A : Nat → Prop} {H : Heap} {locs : List Loc} {ls : Array Slot} {Z : State → Prop}
theorem adN_lt {n p k1 k : Nat} (h : k < n) : adN ad ad1 n p k1 k = ad k := if_neg (by omega)
theorem adN_ge {n p k1 k : Nat} (h : n ≤ k) (h2 : k < n + (k1 - p)) : adN ad ad1 n p k1 k = ad1 (k - n + p) := if_pos ⟨h, h2⟩
set_option maxHeartbeats 1000000 in
theorem callA_core {Qz : Option Value → List AE → Prop} {mc ms : Nat} {ps : List Nat} {rest st0 : List Value} (hC : Cx M p s m args meth c) (hK : KK D tC s) (hX : X ad0 s A) (hR : Rl D tC A n0 ad0 ad w s H locs) (hl : lh ls M.2.2.1 ad L) (hZ : Rt M p l e s m args below meth c D tC A n0 ad0 Q Z)
    (hw : ps.map (fun i => w[i]?) = wc.map (fun e => some (rn (rho ps w.length) e))) (hnd : va_nd ps = true) (hsc : scB w.length w L rest = true) (hQ : ∀ v w1, Qz v w1 → v = none ∧ ps.length ≤ w1.length ∧ w.length + w1.length < sid ∧ w1.all (seB w1.length) = true)
    (k : ∀ w1, Qz none w1 → Go X M Q n0 (cn + mc) (sn + ms) (pc + 3) L rest (w1x ps w.length w1 w))
    (hr : va_Run p l e M.2.2.2.2 s m args below meth c H locs cn sn mc ms (F0 m pc ls st0) (rest.map (gv ad)) (Qca z Qz D tC (fun k => ad (rho ps w.length k)) wc H.size) (va_A (gw (fun k => ad (rho ps w.length k)) tC wc) H.size)) :
    W p l e M.2.2.2.2 s m args below meth c H locs cn sn Z (F0 m pc ls st0) := by
  intro T hT XX
  obtain ⟨v, st₀, t, T', L', h0, X', hL, e1, e2, ⟨⟨v1, w1', ad1, hv, hqz, hadx, hP1, hD1⟩, hz, hk⟩, stp⟩ := hr T hT XX
  obtain ⟨hq1, hlen, hlim, hs1⟩ := hQ v1 w1' hqz
  subst hq1
  cases hv
  have hAA := cw_A hR hw hnd
  have hwl := hw_len hw
  rw [h0] at hz hk
  simp only [scB, Bool.and_eq_true] at hsc
  have hD := gw_D.mp hR.2.1
  have hDw := gw_D.mp hD1
  have hlow : ∀ k, k < w.length → ad k = adN ad ad1 w.length ps.length w1'.length k := fun k hk => (adN_lt hk).symm
  have hsid : ad sid = adN ad ad1 w.length ps.length w1'.length sid := by
    unfold adN
    rw [if_neg (by omega)]
  have hin : ∀ j i, ps[j]? = some i → i < w.length := fun j i h => by
    have hj : j < wc.length := by rw [hwl]; exact (List.getElem?_eq_some_iff.mp h).1
    obtain ⟨i2, a1, a2⟩ := hw_at hw (List.getElem?_eq_getElem hj)
    rw [h] at a1
    cases a1
    exact (List.getElem?_eq_some_iff.mp a2).1
  have had1 : ∀ j i, ps[j]? = some i → ad1 j = ad i := fun j i h => by
    have hj : j < wc.length := by rw [hwl]; exact (List.getElem?_eq_some_iff.mp h).1
    rw [hadx.2.1 j hj]
    show ad (rho ps w.length j) = ad i
    rw [rho_in h]
  have hr1 : ∀ j, j < w1'.length → adN ad ad1 w.length ps.length w1'.length (rho ps w.length j) = ad1 j := fun j hj => by
    by_cases q : j < ps.length
    · have h := List.getElem?_eq_getElem q
      rw [rho_in h, adN_lt (hin j _ h), had1 j _ h]
    · rw [rho_out (Nat.le_of_not_lt q), adN_ge (by omega) (by omega)]
      congr 1
      omega
  have hge : ∀ e1, seB w1'.length e1 = true → ge (adN ad ad1 w.length ps.length w1'.length) tC (rn (rho ps w.length) e1) = ge ad1 tC e1 := fun e1 he => by
    rw [ge_rn]
    exact se_ge hr1 he
  have hl2 : (w1x ps w.length w1' w).length = w.length + (w1'.length - ps.length) := by
    unfold w1x
    rw [List.length_append, mgp_len, List.length_map, List.length_drop]
  have hat : ∀ k e, (w1x ps w.length w1' w)[k]? = some e → (k < w.length ∧ (mgp (rho ps w.length) ps w1' w)[k]? = some e) ∨ (w.length ≤ k ∧ k < w.length + (w1'.length - ps.length) ∧ ∃ e1, w1'[k - w.length + ps.length]? = some e1 ∧ e = rn (rho ps w.length) e1) := fun k e he => by
    unfold w1x at he
    by_cases q : k < w.length
    · rw [List.getElem?_append_left (by rw [mgp_len]; exact q)] at he
      exact Or.inl ⟨q, he⟩
    · rw [List.getElem?_append_right (by rw [mgp_len]; omega), mgp_len, List.getElem?_map, List.getElem?_drop, Option.map_eq_some_iff] at he
      obtain ⟨e1, a1, a2⟩ := he
      rw [Nat.add_comm] at a1
      have := (List.getElem?_eq_some_iff.mp a1).1
      exact Or.inr ⟨by omega, by omega, e1, a1, a2.symm⟩
  have hR' : Rl D tC A n0 ad0 (adN ad ad1 w.length ps.length w1'.length) (w1x ps w.length w1' w) s T'.heap (locs ++ L') := by
    have g := hR.2.2.1
    refine ⟨gw_P.mpr fun k e he => ?_, gw_D.mpr ⟨fun i j hi hj h => ?_, fun k hk => ?_⟩, ⟨Nat.le_trans g.1 (by rw [e1]; exact hz), fun q h1 h2 => by rw [e1, hk q (Nat.lt_of_lt_of_le h1 g.1) (fun y => h2 (hAA q y))]; exact g.2.1 q h1 h2, fun q hq => ?_⟩, hR.2.2.2.1, by rw [hl2]; exact Nat.le_trans hR.2.2.2.2.1 (Nat.le_add_right _ _), fun k hk => ?_, fun q => ?_, ?_⟩
    · rcases hat k e he with ⟨hkl, he⟩ | ⟨h1, h2, e2, h3, rfl⟩
      · rw [adN_lt hkl]
        by_cases hin2 : k ∈ ps
        · obtain ⟨j, hj⟩ := List.getElem?_of_mem hin2
          have hjl : j < w1'.length := Nat.lt_of_lt_of_le (List.getElem?_eq_some_iff.mp hj).1 hlen
          have h3 := mgp_in (rho ps w.length) ps w1' w j k _ hnd hj (List.getElem?_eq_getElem hjl) hkl
          rw [he] at h3
          cases h3
          have h4 := gw_P.mp hP1 j _ (List.getElem?_eq_getElem hjl)
          rw [had1 j k hj] at h4
          rw [hge _ (List.all_eq_true.mp hs1 _ (List.getElem_mem hjl)), e1]
          exact h4
        · rw [mgp_out _ _ _ _ _ hin2] at he
          have h5 : ge (adN ad ad1 w.length ps.length w1'.length) tC e = ge ad tC e := (se_ge hlow (List.all_eq_true.mp hsc.1.1 _ (List.mem_of_getElem? he))).symm
          rw [h5]
          refine (gw_P.mp hR.1 k e he).kept ?_
          rw [e1]
          exact hk _ (Rl_lt hR hkl) (cw_not hR hw hkl hin2)
      · rw [adN_ge h1 h2, hge _ (List.all_eq_true.mp hs1 _ (List.mem_of_getElem? h3)), e1]
        exact gw_P.mp hP1 _ _ h3
    · rw [hl2] at hi hj
      have hcross : ∀ i j, i < w.length → w.length ≤ j → j < w.length + (w1'.length - ps.length) → ¬ ad i = ad1 (j - w.length + ps.length) := fun i j hi hj hj2 h => by
        have h4 := hDw.2 (j - w.length + ps.length) (by omega)
        rcases h4 with ⟨t2, q, h5⟩ | h5
        · obtain ⟨e3, h6, h7⟩ := gw_inv h5
          have h8 := congrArg Prod.fst h7
          simp only at h8
          have ht : t2 < wc.length := (List.getElem?_eq_some_iff.mp h6).1
          have h9 : ad1 t2 = ad (rho ps w.length t2) := hadx.2.1 t2 ht
          have := hDw.1 (j - w.length + ps.length) t2 (by omega) (by omega) (h8.trans h9.symm)
          omega
        · have := Rl_lt hR hi
          omega
      by_cases qi : i < w.length
      · by_cases qj : j < w.length
        · rw [adN_lt qi, adN_lt qj] at h
          exact hD.1 i j qi qj h
        · rw [adN_lt qi, adN_ge (by omega) hj] at h
          exact absurd h (hcross i j qi (by omega) hj)
      · by_cases qj : j < w.length
        · rw [adN_ge (by omega) hi, adN_lt qj] at h
          exact absurd h.symm (hcross j i qj (by omega) hi)
        · rw [adN_ge (by omega) hi, adN_ge (by omega) hj] at h
          have := hDw.1 _ _ (by omega) (by omega) h
          omega
    · rw [hl2] at hk
      by_cases q : k < w.length
      · rw [adN_lt q]; exact hD.2 k q
      · rw [adN_ge (by omega) hk]
        exact hAA _ (hDw.2 _ (by omega))
    · rcases List.mem_append.mp hq with h | h
      · exact g.2.2 q h
      · exact hAA _ (hL q h)
    · rw [adN_lt (Nat.lt_of_lt_of_le hk hR.2.2.2.2.1)]
      exact hR.2.2.2.2.2.1 k hk
    · rw [hl2] at q
      have h1 := hR.2.2.2.2.1
      rw [← hR.2.2.2.2.2.2.1 (by omega)]
      funext k
      unfold adN
      rw [if_neg (by omega)]
    · rw [← hsid]; exact hR.2.2.2.2.2.2.2
  obtain ⟨t2, a1, b1⟩ := k w1' hqz p l e s m args below meth c D ad0 (adN ad ad1 w.length ps.length w1'.length) tC A T'.heap (locs ++ L') ls Z hC hK hX hR' (lh_congr hlow hsid hsc.1.2 hl) hZ T' rfl X'
  refine ⟨t2, stp t2 ?_, b1⟩
  rw [← st_congr hlow hsid hsc.2] at a1
  exact a1
end CtorA
section CtorB
variable {X : (Nat → Nat) → State → (Nat → Prop) → Prop} {M z : MD} {Q : Option Value → List AE → Prop} {n0 cn sn pc : Nat} {L : List (Option Value)} {st : List Value} {w wc w1 : List AE}
set_option maxHeartbeats 1000000 in
theorem go_callA {i n j : Nat} {av rest : List Value} (ps : List Nat) (w' : List AE) (hd : decode M.2.1 pc = .ok (.invokespecial i, 3)) (hlk : Cond.methodLink M.1.cls i z.1 ∈ tb) (hz : CI z n) (hrt : z.2.2.2.1 = none) (hE : Ev z (.ref j :: av) wc (Rw none w1)) (hst : st = (av.map (gv (rho ps w.length))).reverse ++ .ref (rho ps w.length j) :: rest) (hw : ps.map (fun i => w[i]?) = wc.map (fun e => some (rn (rho ps w.length) e))) (hnd : va_nd ps = true) (hn : av.length = n) (hF : fitB M z cn sn = true) (hrest : resB rest = true) (hlen : Nat.ble ps.length w1.length = true) (hlim : Nat.blt (w.length + w1.length) sid = true) (hsc : scB w.length w L rest = true) (hs1 : w1.all (seB w1.length) = true) (hw' : w1x ps w.length w1 w = w')
    (k : Go X M Q n0 (cn + z.2.2.2.2.cells) (sn + z.2.2.2.2.slots) (pc + 3) L rest w') : Go X M Q n0 cn sn pc L st w := by
  intro p l e s m args below meth c D ad0 ad tC A H locs ls Z hC hK hX hR hl hZ
  have hts := hC.2.2.2.2.2.1
  have hF := fit_of hF
  have hrest := res_of hrest
  subst hw'
  refine callA_core (z := z) (Qz := Rw none w1) (mc := z.2.2.2.2.cells) (ms := z.2.2.2.2.slots) (rest := rest) hC hK hX hR hl hZ hw hnd hsc (by rintro v w2 ⟨rfl, rfl⟩; exact ⟨rfl, Nat.le_of_ble_eq_true hlen, blt_lt hlim, hs1⟩) (fun w2 h => by rw [h.2]; exact k) ?_
  refine va_runI (bytes := z.2.1) (maxL := z.2.2.1) (ws := wCode z :: tb) (b := ad (rho ps w.length j)) (As := av.map (gv (fun k => ad (rho ps w.length k)))) ⟨hC.1, hC.2.1, hC.2.2.1, hC.2.2.2.2.1, hts⟩ (hE l D tC _ H.size) (cwI n hts (gi fun x hx => ?_) (by show wCode z :: tb = _; unfold wCode; rw [hrt]) rfl rfl (hts _ hz.1.2.2.2) (hts _ hlk) (hts _ hz.2.1) hz.2.2 hz.1.2.1 hF.1) ⟨ev_blind, fun U hU hW => ⟨rfl, by rw [hU], by rw [hU]; exact cw_P hR hw, hK.warm hW, gw_D.mpr ⟨(cw_D hR hw hnd).1, fun _ _ => trivial⟩⟩⟩ rfl (by rw [List.length_map]; exact hn) hl.1 ?_ (lv_room ?_) hd hF.2
  · rcases List.mem_cons.mp hx with rfl | hx
    · exact hz.1.2.2.1
    · exact hx
  · show st.map (gv ad) = _
    rw [hst, List.map_append, List.map_reverse, av_map]
    rfl
  · have e1 : (rest.map (gv ad)).map (fun v => v.category) = rest.map fun v => v.category := by simp [gv_cat]
    rw [e1]; exact hrest
set_option maxHeartbeats 1000000 in
theorem go_callN {i n j : Nat} {av rest : List Value} (ps : List Nat) (w' : List AE) (hd : decode M.2.1 pc = .ok (.invokespecial i, 3)) (hlk : Cond.methodLinkNest M.1.cls i z.1 "ApproverWins" ∈ nsW) (hz : CI z n) (hrt : z.2.2.2.1 = none) (hE : Ev z (.ref j :: av) wc (Rw none w1)) (hst : st = (av.map (gv (rho ps w.length))).reverse ++ .ref (rho ps w.length j) :: rest) (hw : ps.map (fun i => w[i]?) = wc.map (fun e => some (rn (rho ps w.length) e))) (hnd : va_nd ps = true) (hn : av.length = n) (hF : fitB M z cn sn = true) (hrest : resB rest = true) (hlen : Nat.ble ps.length w1.length = true) (hlim : Nat.blt (w.length + w1.length) sid = true) (hsc : scB w.length w L rest = true) (hs1 : w1.all (seB w1.length) = true) (hw' : w1x ps w.length w1 w = w')
    (k : Go X M Q n0 (cn + z.2.2.2.2.cells) (sn + z.2.2.2.2.slots) (pc + 3) L rest w') : Go X M Q n0 cn sn pc L st w := by
  intro p l e s m args below meth c D ad0 ad tC A H locs ls Z hC hK hX hR hl hZ
  have hts := hC.2.2.2.2.2.1
  have hF := fit_of hF
  have hrest := res_of hrest
  subst hw'
  refine callA_core (z := z) (Qz := Rw none w1) (mc := z.2.2.2.2.cells) (ms := z.2.2.2.2.slots) (rest := rest) hC hK hX hR hl hZ hw hnd hsc (by rintro v w2 ⟨rfl, rfl⟩; exact ⟨rfl, Nat.le_of_ble_eq_true hlen, blt_lt hlim, hs1⟩) (fun w2 h => by rw [h.2]; exact k) ?_
  refine va_runIN (bytes := z.2.1) (maxL := z.2.2.1) (ws := wCode z :: tb) (b := ad (rho ps w.length j)) (As := av.map (gv (fun k => ad (rho ps w.length k)))) ⟨hC.1, hC.2.1, hC.2.2.1, hC.2.2.2.2.1, hts⟩ (hE l D tC _ H.size) ⟨va_cnB n hts (gi fun x hx => ?_) (by show wCode z :: tb = _; unfold wCode; rw [hrt]) rfl rfl (hK.2.1 _ hlk) (hts _ hz.1.2.2.2) hz.1.2.1 hF.1, hz.2.2, hts _ hz.2.1⟩ ⟨ev_blind, fun U hU hW => ⟨rfl, by rw [hU], by rw [hU]; exact cw_P hR hw, hK.warm hW, gw_D.mpr ⟨(cw_D hR hw hnd).1, fun _ _ => trivial⟩⟩⟩ rfl (by rw [List.length_map]; exact hn) hl.1 ?_ (lv_room ?_) hd hF.2
  · rcases List.mem_cons.mp hx with rfl | hx
    · exact hz.1.2.2.1
    · exact hx
  · show st.map (gv ad) = _
    rw [hst, List.map_append, List.map_reverse, av_map]
    rfl
  · have e1 : (rest.map (gv ad)).map (fun v => v.category) = rest.map fun v => v.category := by simp [gv_cat]
    rw [e1]; exact hrest
set_option maxHeartbeats 1000000 in
theorem go_callAq {Qz : Option Value → List AE → Prop} {i n j : Nat} {av rest : List Value} (ps : List Nat) (hd : decode M.2.1 pc = .ok (.invokespecial i, 3)) (hlk : Cond.methodLink M.1.cls i z.1 ∈ tb) (hz : CI z n) (hrt : z.2.2.2.1 = none) (hE : Ev z (.ref j :: av) wc Qz) (hst : st = (av.map (gv (rho ps w.length))).reverse ++ .ref (rho ps w.length j) :: rest) (hw : ps.map (fun i => w[i]?) = wc.map (fun e => some (rn (rho ps w.length) e))) (hnd : va_nd ps = true) (hn : av.length = n) (hF : fitB M z cn sn = true) (hrest : resB rest = true) (hsc : scB w.length w L rest = true) (hQ : ∀ v w1, Qz v w1 → v = none ∧ ps.length ≤ w1.length ∧ w.length + w1.length < sid ∧ w1.all (seB w1.length) = true)
    (k : ∀ w1, Qz none w1 → Go X M Q n0 (cn + z.2.2.2.2.cells) (sn + z.2.2.2.2.slots) (pc + 3) L rest (w1x ps w.length w1 w)) : Go X M Q n0 cn sn pc L st w := by
  intro p l e s m args below meth c D ad0 ad tC A H locs ls Z hC hK hX hR hl hZ
  have hts := hC.2.2.2.2.2.1
  have hF := fit_of hF
  have hrest := res_of hrest
  refine callA_core (z := z) (rest := rest) hC hK hX hR hl hZ hw hnd hsc hQ k ?_
  refine va_runI (bytes := z.2.1) (maxL := z.2.2.1) (ws := wCode z :: tb) (b := ad (rho ps w.length j)) (As := av.map (gv (fun k => ad (rho ps w.length k)))) ⟨hC.1, hC.2.1, hC.2.2.1, hC.2.2.2.2.1, hts⟩ (hE l D tC _ H.size) (cwI n hts (gi fun x hx => ?_) (by show wCode z :: tb = _; unfold wCode; rw [hrt]) rfl rfl (hts _ hz.1.2.2.2) (hts _ hlk) (hts _ hz.2.1) hz.2.2 hz.1.2.1 hF.1) ⟨ev_blind, fun U hU hW => ⟨rfl, by rw [hU], by rw [hU]; exact cw_P hR hw, hK.warm hW, gw_D.mpr ⟨(cw_D hR hw hnd).1, fun _ _ => trivial⟩⟩⟩ rfl (by rw [List.length_map]; exact hn) hl.1 ?_ (lv_room ?_) hd hF.2
  · rcases List.mem_cons.mp hx with rfl | hx
    · exact hz.1.2.2.1
    · exact hx
  · show st.map (gv ad) = _
    rw [hst, List.map_append, List.map_reverse, av_map]
    rfl
  · have e1 : (rest.map (gv ad)).map (fun v => v.category) = rest.map fun v => v.category := by simp [gv_cat]
    rw [e1]; exact hrest
end CtorB
