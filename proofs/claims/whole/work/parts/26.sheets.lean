/-- sheet s of four -/
def hs (H0 H1 H2 H3 : TH) (s : Nat) : TH := match s with
  | 0 => H0
  | 1 => H1
  | 2 => H2
  | _ => H3
theorem four {P : Nat → Prop} (h0 : P 0) (h1 : P 1) (h2 : P 2) (h3 : P 3) : ∀ s, s < 4 → P s
  | 0, _ => h0
  | 1, _ => h1
  | 2, _ => h2
  | 3, _ => h3
  | s + 4, h => absurd h (by omega)
theorem go_copyI {X : (Nat → Nat) → State → (Nat → Prop) → Prop} {M : MD} {Q : Option Value → List AE → Prop} {n0 cn sn pc : Nat} {L : List (Option Value)} {st : List Value} {w : List AE} {i a b na nb : Nat} {f g : Nat → Int32} {x y n : Int32} (hd : decode M.2.1 pc = .ok (.invokestatic i, 3)) (hlk : Cond.methodLink M.1.cls i arraycopyName ∈ tb) (ha : w[a]? = some (zI na f)) (hb : w[b]? = some (zI nb g)) (h1 : ¬ x < 0) (h2 : ¬ y < 0) (h3 : ¬ n < 0) (h4 : x.toNatClampNeg + n.toNatClampNeg ≤ na) (h5 : y.toNatClampNeg + n.toNatClampNeg ≤ nb) (hna : Cond.native arraycopyName ∈ tb) (hst : Cond.static arraycopyName ∈ tb) (hini : Cond.initialized "java/lang/System" ∈ tb) (hf : 1 ≤ M.2.2.2.2.frames) (hlo : (st.map fun v => v.category).sum + (nativeFrameWords "java/lang/System" "arraycopy" 5 + 11) ≤ M.2.2.2.2.locals)
    (k : Go X M Q n0 cn sn (pc + 3) L st (w.set b (zI nb (va_cpy f g x.toNatClampNeg y.toNatClampNeg n.toNatClampNeg)))) : Go X M Q n0 cn sn pc L (.int n :: .int y :: .ref b :: .int x :: .ref a :: st) w := by
  intro p l e s m args below meth c D ad0 ad tC A H locs ls Z hC hK hX hR hl hZ
  have hts := hC.2.2.2.2.2.1
  have e1 : (st.map (gv ad)).map (fun v => v.category) = st.map fun v => v.category := by simp [gv_cat]
  exact va_copyi (ty := .int) hC.1 hC.2.1 (hC.2.2.1.trans hl.1.symm) hC.2.2.2.2.1 (hts _ hlk) (hts _ hna) (hts _ hst) (hts _ hini) hK.1 hR.1 hR.2.1 hR.2.2.1 a b 0 0 (gw_at ha) (gw_at hb) rfl rfl rfl h1 h2 h3 h4 h5 (fun _ _ => rfl) hf (by rw [e1]; exact hlo) hd (fun H1 locs1 g1 g2 g3 => k p l e s m args below meth c D ad0 ad tC A H1 locs1 ls Z hC hK hX (Rl_set (e := zI nb (va_cpy f g x.toNatClampNeg y.toNatClampNeg n.toNatClampNeg)) hR g1 g2 g3) hl hZ)
theorem find0 {l f g i z : Int32} (h : (if ¬ l = 0 then 1 else if ¬ f = g then 3 else if i < 0 ∨ ¬ i < z then 2 else (0 : Int32)) = 0) : l = 0 ∧ f = g ∧ ¬ (i < 0 ∨ ¬ i < z) := by
  by_cases h1 : l = 0
  · rw [if_neg (fun q => q h1)] at h
    by_cases h2 : f = g
    · rw [if_neg (fun q => q h2)] at h
      by_cases h3 : i < 0 ∨ ¬ i < z
      · rw [if_pos h3] at h; exact absurd h (by decide)
      · exact ⟨h1, h2, h3⟩
    · rw [if_pos h2] at h; exact absurd h (by decide)
  · rw [if_pos h1] at h; exact absurd h (by decide)
theorem cpS : Cond.static arraycopyName ∈ tb := tl_3 187 rfl rfl
theorem cpN : Cond.native arraycopyName ∈ tb := tl_3 188 rfl rfl
set_option maxRecDepth 100000 in
theorem ev_sheet0 (t0 t1 : TX) (G N : TG) (T : TT) (C D : TC) (P : TP) (S : TS) (H0 H1 H2 H3 : TH) (ta : Nat → Int32) (lf : Int32) (form n : Int32) : Ev MX11_sheet [.ref 0, .int 0, .int form, .int n] (cwd t0 t1 G N T C D P S H0 H1 H2 H3 ta lf) (fun v w => ((form < 0 ∨ 3 ≤ form) ∨ ¬ n ≤ 60) ∧ v = some (.int (-2)) ∧ w = (cwd t0 t1 G N T C D P S H0 H1 H2 H3 ta lf) ∨ ¬ ((form < 0 ∨ 3 ≤ form) ∨ ¬ n ≤ 60) ∧ n < 0 ∧ v = some (.int (-15)) ∧ w = (cwd t0 t1 G N T C D P S H0 H1 H2 H3 ta 5) ∨ ¬ ((form < 0 ∨ 3 ≤ form) ∨ ¬ n ≤ 60) ∧ ¬ n < 0 ∧ v = some (.int n) ∧ ∃ f2 : Nat → Int32, w = (cwd t0 t1 G N T C D P S (0, form, n.toNatClampNeg, f2) H1 H2 H3 ta lf) ∧ ∀ i, i < 60 → f2 i = 0) := by
  refine ev_of bX11_sheet [some (.ref 0), some (.int 0), some (.int form), some (.int n)] (Nat.le_of_ble_eq_true rfl) rfl ?_
  refine go_iload_n dX11_sheet_0 rfl ?_
  refine go_callSi (z := MX11_isSheet) [] dX11_sheet_1 lX11_216 sX11_isSheet (ev_X11_isSheet _) rfl rfl rfl rfl rfl rfl ?_
  refine go_if_eq 20 dX11_sheet_4 (by decide) (fun c_4 => absurd c_4 (by decide)) (fun _ => ?_)
  refine go_iload_n dX11_sheet_7 rfl ?_
  refine go_callSi (z := MX11_isForm) [] dX11_sheet_8 lX11_256 sX11_isForm (ev_X11_isForm _) rfl rfl rfl rfl rfl rfl ?_
  refine go_if_eq 20 dX11_sheet_11 (by decide) (fun c_11 => ?_) (fun c_11 => ?_)
  · refine go_bipush (-2) dX11_sheet_20 (by decide) ?_
    refine go_ireturn dX11_sheet_22 rfl rfl (Nat.le_of_ble_eq_true rfl) (Nat.le_of_ble_eq_true rfl) ?_
    exact Or.inl ⟨by first | exact Or.inl (full_t2 c_11) | exact Or.inr c_17, rfl, rfl⟩
  · refine go_iload_n dX11_sheet_14 rfl ?_
    refine go_bipush (60) dX11_sheet_15 (by decide) ?_
    refine go_icmp_le 23 dX11_sheet_17 (by decide) (fun c_17 => ?_) (fun c_17 => ?_)
    · refine go_iload_n dX11_sheet_23 rfl ?_
      refine go_if_ge 33 dX11_sheet_24 (by decide) (fun c_24 => ?_) (fun c_24 => ?_)
      · obtain ⟨hn1, hn2⟩ := in_range (x := n) (n := 61) (by simpa using c_24) (fun q => absurd c_17 (Int32.not_le.mpr (show (60 : Int32) < n from lt_succ (n := 60) (by decide) q))) (by decide)
        refine go_aload_n dX11_sheet_33 rfl ?_
        refine go_getf fX11_68 dX11_sheet_34 rfl rfl ?_
        refine go_iload_n dX11_sheet_37 rfl ?_
        refine go_aald dX11_sheet_38 rfl (vp_in_nI (n := 0) (by decide) (by decide)) rfl ?_
        refine go_iload_n dX11_sheet_39 rfl ?_
        refine go_iload_n dX11_sheet_40 rfl ?_
        rw [show Value.int n = Value.int (nI n.toNatClampNeg) by rw [← hn1]]
        refine go_callV (z := MX6_renew) [36, 37] dX11_sheet_41 lX11_259 sX6_renew (ev_X6_renew _ _ _ form n.toNatClampNeg (by omega) _) rfl rfl rfl rfl rfl ⟨_, _, rfl⟩ (fit_of rfl) (res_of rfl) (fun v w1 h => by obtain ⟨-, f2, rfl, -⟩ := h; rfl) (fun v_41 w_41 h_41 => ?_)
        obtain ⟨rfl, f2, rfl, hf2⟩ := h_41
        refine go_iload_n dX11_sheet_44 rfl ?_
        refine go_ireturn dX11_sheet_45 rfl rfl (Nat.le_of_ble_eq_true rfl) (Nat.le_of_ble_eq_true rfl) ?_
        exact Or.inr (Or.inr ⟨fun q => q.elim (full_t3 c_11) (fun q => q c_17), by simpa using c_24, rfl, f2, rfl, hf2⟩)
      · refine go_aload_n dX11_sheet_27 rfl ?_
        refine go_iconst (5) dX11_sheet_28 (by decide) ?_
        refine go_callVsw (z := MX11_finding) dX11_sheet_29 lX11_223 sX11_finding (ev_X11_finding t0 t1 G N T C D P S H0 H1 H2 H3 ta lf (5)) rfl rfl rfl ⟨_, _, rfl⟩ rfl rfl rfl ?_
        refine go_ireturn dX11_sheet_32 rfl rfl (Nat.le_of_ble_eq_true rfl) (Nat.le_of_ble_eq_true rfl) ?_
        exact Or.inr (Or.inl ⟨fun q => q.elim (full_t3 c_11) (fun q => q c_17), by simpa using c_24, rfl, rfl⟩)
    · refine go_bipush (-2) dX11_sheet_20 (by decide) ?_
      refine go_ireturn dX11_sheet_22 rfl rfl (Nat.le_of_ble_eq_true rfl) (Nat.le_of_ble_eq_true rfl) ?_
      exact Or.inl ⟨by first | exact Or.inl (full_t2 c_11) | exact Or.inr c_17, rfl, rfl⟩
set_option maxRecDepth 100000 in
theorem ev_lose0 (t0 t1 : TX) (G N : TG) (T : TT) (C D : TC) (P : TP) (S : TS) (H0 H1 H2 H3 : TH) (ta : Nat → Int32) (lf : Int32) : Ev MX11_lose [.ref 0, .int 0] (cwd t0 t1 G N T C D P S H0 H1 H2 H3 ta lf) (fun v w => ¬ H0.1 = 0 ∧ v = some (.int (-11)) ∧ w = (cwd t0 t1 G N T C D P S H0 H1 H2 H3 ta 1) ∨ H0.1 = 0 ∧ v = some (.int (nI H0.2.2.1)) ∧ w = (cwd t0 t1 G N T C D P S (1, H0.2.1, H0.2.2.1, H0.2.2.2) H1 H2 H3 ta lf)) := by
  refine ev_of bX11_lose [some (.ref 0), some (.int 0)] (Nat.le_of_ble_eq_true rfl) rfl ?_
  refine go_iload_n dX11_lose_0 rfl ?_
  refine go_callSi (z := MX11_isSheet) [] dX11_lose_1 lX11_216 sX11_isSheet (ev_X11_isSheet _) rfl rfl rfl rfl rfl rfl ?_
  refine go_if_ne 10 dX11_lose_4 (by decide) (fun _ => ?_) (fun c_4 => absurd c_4 (by decide))
  refine go_aload_n dX11_lose_10 rfl ?_
  refine go_getf fX11_68 dX11_lose_11 rfl rfl ?_
  refine go_iload_n dX11_lose_14 rfl ?_
  refine go_aald dX11_lose_15 rfl (vp_in_nI (n := 0) (by decide) (by decide)) rfl ?_
  refine go_getf fX11_219 dX11_lose_16 rfl rfl ?_
  refine go_if_eq 28 dX11_lose_19 (by decide) (fun c_19 => ?_) (fun c_19 => ?_)
  · refine go_aload_n dX11_lose_28 rfl ?_
    refine go_getf fX11_68 dX11_lose_29 rfl rfl ?_
    refine go_iload_n dX11_lose_32 rfl ?_
    refine go_aald dX11_lose_33 rfl (vp_in_nI (n := 0) (by decide) (by decide)) rfl ?_
    refine go_iconst (1) dX11_lose_34 (by decide) ?_
    refine go_putf fX11_219 dX11_lose_35 rfl (fun _ _ _ h => by cases h; rfl) (fun _ => rfl) (fun _ => rfl) (Nat.le_of_ble_eq_true rfl) ?_
    refine go_aload_n dX11_lose_38 rfl ?_
    refine go_getf fX11_68 dX11_lose_39 rfl rfl ?_
    refine go_iload_n dX11_lose_42 rfl ?_
    refine go_aald dX11_lose_43 rfl (vp_in_nI (n := 0) (by decide) (by decide)) rfl ?_
    refine go_getf fX11_226 dX11_lose_44 rfl rfl ?_
    refine go_ireturn dX11_lose_47 rfl rfl (Nat.le_of_ble_eq_true rfl) (Nat.le_of_ble_eq_true rfl) ?_
    exact Or.inr ⟨c_19, rfl, rfl⟩
  · refine go_aload_n dX11_lose_22 rfl ?_
    refine go_iconst (1) dX11_lose_23 (by decide) ?_
    refine go_callVsw (z := MX11_finding) dX11_lose_24 lX11_223 sX11_finding (ev_X11_finding t0 t1 G N T C D P S H0 H1 H2 H3 ta lf (1)) rfl rfl rfl ⟨_, _, rfl⟩ rfl rfl rfl ?_
    refine go_ireturn dX11_lose_27 rfl rfl (Nat.le_of_ble_eq_true rfl) (Nat.le_of_ble_eq_true rfl) ?_
    exact Or.inl ⟨c_19, rfl, rfl⟩
set_option maxRecDepth 100000 in
theorem ev_lay0 (t0 t1 : TX) (G N : TG) (T : TT) (C D : TC) (P : TP) (S : TS) (H0 H1 H2 H3 : TH) (ta : Nat → Int32) (lf : Int32) (form i v : Int32) (hz : H0.2.2.1 ≤ 60) : Ev MX11_lay [.ref 0, .int 0, .int form, .int i, .int v] (cwd t0 t1 G N T C D P S H0 H1 H2 H3 ta lf) (fun u w => (form < 0 ∨ 3 ≤ form) ∧ u = some (.int (-2)) ∧ w = (cwd t0 t1 G N T C D P S H0 H1 H2 H3 ta lf) ∨ ¬ (form < 0 ∨ 3 ≤ form) ∧ ¬ (if ¬ H0.1 = 0 then 1 else if ¬ H0.2.1 = form then 3 else if i < 0 ∨ ¬ i < nI H0.2.2.1 then 2 else (0 : Int32)) = 0 ∧ u = some (.int (-10 - (if ¬ H0.1 = 0 then 1 else if ¬ H0.2.1 = form then 3 else if i < 0 ∨ ¬ i < nI H0.2.2.1 then 2 else (0 : Int32)))) ∧ w = (cwd t0 t1 G N T C D P S H0 H1 H2 H3 ta (if ¬ H0.1 = 0 then 1 else if ¬ H0.2.1 = form then 3 else if i < 0 ∨ ¬ i < nI H0.2.2.1 then 2 else (0 : Int32))) ∨ ¬ (form < 0 ∨ 3 ≤ form) ∧ (if ¬ H0.1 = 0 then 1 else if ¬ H0.2.1 = form then 3 else if i < 0 ∨ ¬ i < nI H0.2.2.1 then 2 else (0 : Int32)) = 0 ∧ u = some (.int 1) ∧ w = (cwd t0 t1 G N T C D P S (H0.1, H0.2.1, H0.2.2.1, upd H0.2.2.2 i.toNatClampNeg (cutI H0.2.1 v)) H1 H2 H3 ta lf)) := by
  refine ev_of bX11_lay [some (.ref 0), some (.int 0), some (.int form), some (.int i), some (.int v), none] (Nat.le_of_ble_eq_true rfl) rfl ?_
  refine go_iload_n dX11_lay_0 rfl ?_
  refine go_callSi (z := MX11_isSheet) [] dX11_lay_1 lX11_216 sX11_isSheet (ev_X11_isSheet _) rfl rfl rfl rfl rfl rfl ?_
  refine go_if_eq 14 dX11_lay_4 (by decide) (fun c_4 => absurd c_4 (by decide)) (fun _ => ?_)
  refine go_iload_n dX11_lay_7 rfl ?_
  refine go_callSi (z := MX11_isForm) [] dX11_lay_8 lX11_256 sX11_isForm (ev_X11_isForm _) rfl rfl rfl rfl rfl rfl ?_
  refine go_if_ne 17 dX11_lay_11 (by decide) (fun c_11 => ?_) (fun c_11 => ?_)
  · refine go_aload_n dX11_lay_17 rfl ?_
    refine go_getf fX11_68 dX11_lay_18 rfl rfl ?_
    refine go_iload_n dX11_lay_21 rfl ?_
    refine go_aald dX11_lay_22 rfl (vp_in_nI (n := 0) (by decide) (by decide)) rfl ?_
    refine go_iload_n dX11_lay_23 rfl ?_
    refine go_iload_n dX11_lay_24 rfl ?_
    refine go_callVi (z := MX6_findingAt) [36, 37] dX11_lay_25 lX11_262 sX6_findingAt (ev_X6_findingAt _ _ _ form i _) rfl rfl rfl rfl rfl ⟨_, _, rfl⟩ rfl rfl ?_
    refine go_istore dX11_lay_28 (by decide) ?_
    refine go_iload dX11_lay_30 rfl ?_
    refine go_if_eq 42 dX11_lay_32 (by decide) (fun c_32 => ?_) (fun c_32 => ?_)
    · have hi0 := find0 c_32
      obtain ⟨hi1, hi2⟩ := in_range (x := i) (n := H0.2.2.1) (fun q => hi0.2.2 (Or.inl q)) (fun q => hi0.2.2 (Or.inr (fun z => absurd q (by simpa using z)))) (by omega)
      refine go_aload_n dX11_lay_42 rfl ?_
      refine go_getf fX11_68 dX11_lay_43 rfl rfl ?_
      refine go_iload_n dX11_lay_46 rfl ?_
      refine go_aald dX11_lay_47 rfl (vp_in_nI (n := 0) (by decide) (by decide)) rfl ?_
      refine go_iload_n dX11_lay_48 rfl ?_
      refine go_iload dX11_lay_49 rfl ?_
      rw [show Value.int i = Value.int (nI i.toNatClampNeg) by rw [← hi1]]
      refine go_callVw (z := MX6_put) [36, 37] _ dX11_lay_51 lX11_265 sX6_put (ev_X6_put _ _ v i.toNatClampNeg H0.2.2.1 hi2 hz _) rfl rfl rfl rfl rfl ⟨_, _, rfl⟩ rfl rfl rfl rfl ?_
      refine go_iconst (1) dX11_lay_54 (by decide) ?_
      refine go_ireturn dX11_lay_55 rfl rfl (Nat.le_of_ble_eq_true rfl) (Nat.le_of_ble_eq_true rfl) ?_
      exact Or.inr (Or.inr ⟨full_t3 c_11, c_32, rfl, rfl⟩)
    · refine go_aload_n dX11_lay_35 rfl ?_
      refine go_iload dX11_lay_36 rfl ?_
      refine go_callVsw (z := MX11_finding) dX11_lay_38 lX11_223 sX11_finding (ev_X11_finding t0 t1 G N T C D P S H0 H1 H2 H3 ta lf ((if ¬ H0.1 = 0 then 1 else if ¬ H0.2.1 = form then 3 else if i < 0 ∨ ¬ i < nI H0.2.2.1 then 2 else (0 : Int32)))) rfl rfl rfl ⟨_, _, rfl⟩ rfl rfl rfl ?_
      refine go_ireturn dX11_lay_41 rfl rfl (Nat.le_of_ble_eq_true rfl) (Nat.le_of_ble_eq_true rfl) ?_
      exact Or.inr (Or.inl ⟨full_t3 c_11, c_32, rfl, rfl⟩)
  · refine go_bipush (-2) dX11_lay_14 (by decide) ?_
    refine go_ireturn dX11_lay_16 rfl rfl (Nat.le_of_ble_eq_true rfl) (Nat.le_of_ble_eq_true rfl) ?_
    exact Or.inl ⟨full_t2 c_11, rfl, rfl⟩
set_option maxRecDepth 100000 in
theorem ev_get0 (t0 t1 : TX) (G N : TG) (T : TT) (C D : TC) (P : TP) (S : TS) (H0 H1 H2 H3 : TH) (ta : Nat → Int32) (lf : Int32) (form i : Int32) (hz : H0.2.2.1 ≤ 60) : Ev MX11_get [.ref 0, .int 0, .int form, .int i] (cwd t0 t1 G N T C D P S H0 H1 H2 H3 ta lf) (fun u w => (form < 0 ∨ 3 ≤ form) ∧ u = some (.int (-2147483648)) ∧ w = (cwd t0 t1 G N T C D P S H0 H1 H2 H3 ta lf) ∨ ¬ (form < 0 ∨ 3 ≤ form) ∧ ¬ (if ¬ H0.1 = 0 then 1 else if ¬ H0.2.1 = form then 3 else if i < 0 ∨ ¬ i < nI H0.2.2.1 then 2 else (0 : Int32)) = 0 ∧ u = some (.int (-2147483648)) ∧ w = (cwd t0 t1 G N T C D P S H0 H1 H2 H3 ta (if ¬ H0.1 = 0 then 1 else if ¬ H0.2.1 = form then 3 else if i < 0 ∨ ¬ i < nI H0.2.2.1 then 2 else (0 : Int32))) ∨ ¬ (form < 0 ∨ 3 ≤ form) ∧ (if ¬ H0.1 = 0 then 1 else if ¬ H0.2.1 = form then 3 else if i < 0 ∨ ¬ i < nI H0.2.2.1 then 2 else (0 : Int32)) = 0 ∧ u = some (.int (H0.2.2.2 i.toNatClampNeg)) ∧ w = (cwd t0 t1 G N T C D P S H0 H1 H2 H3 ta lf)) := by
  refine ev_of bX11_get [some (.ref 0), some (.int 0), some (.int form), some (.int i), none] (Nat.le_of_ble_eq_true rfl) rfl ?_
  refine go_iload_n dX11_get_0 rfl ?_
  refine go_callSi (z := MX11_isSheet) [] dX11_get_1 lX11_216 sX11_isSheet (ev_X11_isSheet _) rfl rfl rfl rfl rfl rfl ?_
  refine go_if_eq 14 dX11_get_4 (by decide) (fun c_4 => absurd c_4 (by decide)) (fun _ => ?_)
  refine go_iload_n dX11_get_7 rfl ?_
  refine go_callSi (z := MX11_isForm) [] dX11_get_8 lX11_256 sX11_isForm (ev_X11_isForm _) rfl rfl rfl rfl rfl rfl ?_
  refine go_if_ne 18 dX11_get_11 (by decide) (fun c_11 => ?_) (fun c_11 => ?_)
  · refine go_aload_n dX11_get_18 rfl ?_
    refine go_getf fX11_68 dX11_get_19 rfl rfl ?_
    refine go_iload_n dX11_get_22 rfl ?_
    refine go_aald dX11_get_23 rfl (vp_in_nI (n := 0) (by decide) (by decide)) rfl ?_
    refine go_iload_n dX11_get_24 rfl ?_
    refine go_iload_n dX11_get_25 rfl ?_
    refine go_callVi (z := MX6_findingAt) [36, 37] dX11_get_26 lX11_262 sX6_findingAt (ev_X6_findingAt _ _ _ form i _) rfl rfl rfl rfl rfl ⟨_, _, rfl⟩ rfl rfl ?_
    refine go_istore dX11_get_29 (by decide) ?_
    refine go_iload dX11_get_31 rfl ?_
    refine go_if_eq 46 dX11_get_33 (by decide) (fun c_33 => ?_) (fun c_33 => ?_)
    · have hi0 := find0 c_33
      refine go_aload_n dX11_get_46 rfl ?_
      refine go_getf fX11_68 dX11_get_47 rfl rfl ?_
      refine go_iload_n dX11_get_50 rfl ?_
      refine go_aald dX11_get_51 rfl (vp_in_nI (n := 0) (by decide) (by decide)) rfl ?_
      refine go_getf fX11_227 dX11_get_52 rfl rfl ?_
      refine go_iload_n dX11_get_55 rfl ?_
      refine go_iald dX11_get_56 rfl (vin_of (fun q => hi0.2.2 (Or.inl q)) (s := nI H0.2.2.1) (fun q => hi0.2.2 (Or.inr (fun z => absurd q (by simpa using z)))) (by rw [nI_toInt (by omega)]; omega)) ?_
      refine go_ireturn dX11_get_57 rfl rfl (Nat.le_of_ble_eq_true rfl) (Nat.le_of_ble_eq_true rfl) ?_
      exact Or.inr (Or.inr ⟨full_t3 c_11, c_33, rfl, rfl⟩)
    · refine go_aload_n dX11_get_36 rfl ?_
      refine go_iload dX11_get_37 rfl ?_
      refine go_putf fX11_269 dX11_get_39 rfl (fun _ _ _ h => by cases h; rfl) (fun _ => rfl) (fun _ => rfl) (Nat.le_of_ble_eq_true rfl) ?_
      refine go_ldc_w dX11_get_42 kX11_268 ?_
      refine go_ireturn dX11_get_45 rfl rfl (Nat.le_of_ble_eq_true rfl) (Nat.le_of_ble_eq_true rfl) ?_
      exact Or.inr (Or.inl ⟨full_t3 c_11, c_33, rfl, rfl⟩)
  · refine go_ldc_w dX11_get_14 kX11_268 ?_
    refine go_ireturn dX11_get_17 rfl rfl (Nat.le_of_ble_eq_true rfl) (Nat.le_of_ble_eq_true rfl) ?_
    exact Or.inl ⟨full_t2 c_11, rfl, rfl⟩
set_option maxRecDepth 100000 in
theorem ev_sheet1 (t0 t1 : TX) (G N : TG) (T : TT) (C D : TC) (P : TP) (S : TS) (H0 H1 H2 H3 : TH) (ta : Nat → Int32) (lf : Int32) (form n : Int32) : Ev MX11_sheet [.ref 0, .int 1, .int form, .int n] (cwd t0 t1 G N T C D P S H0 H1 H2 H3 ta lf) (fun v w => ((form < 0 ∨ 3 ≤ form) ∨ ¬ n ≤ 60) ∧ v = some (.int (-2)) ∧ w = (cwd t0 t1 G N T C D P S H0 H1 H2 H3 ta lf) ∨ ¬ ((form < 0 ∨ 3 ≤ form) ∨ ¬ n ≤ 60) ∧ n < 0 ∧ v = some (.int (-15)) ∧ w = (cwd t0 t1 G N T C D P S H0 H1 H2 H3 ta 5) ∨ ¬ ((form < 0 ∨ 3 ≤ form) ∨ ¬ n ≤ 60) ∧ ¬ n < 0 ∧ v = some (.int n) ∧ ∃ f2 : Nat → Int32, w = (cwd t0 t1 G N T C D P S H0 (0, form, n.toNatClampNeg, f2) H2 H3 ta lf) ∧ ∀ i, i < 60 → f2 i = 0) := by
  refine ev_of bX11_sheet [some (.ref 0), some (.int 1), some (.int form), some (.int n)] (Nat.le_of_ble_eq_true rfl) rfl ?_
  refine go_iload_n dX11_sheet_0 rfl ?_
  refine go_callSi (z := MX11_isSheet) [] dX11_sheet_1 lX11_216 sX11_isSheet (ev_X11_isSheet _) rfl rfl rfl rfl rfl rfl ?_
  refine go_if_eq 20 dX11_sheet_4 (by decide) (fun c_4 => absurd c_4 (by decide)) (fun _ => ?_)
  refine go_iload_n dX11_sheet_7 rfl ?_
  refine go_callSi (z := MX11_isForm) [] dX11_sheet_8 lX11_256 sX11_isForm (ev_X11_isForm _) rfl rfl rfl rfl rfl rfl ?_
  refine go_if_eq 20 dX11_sheet_11 (by decide) (fun c_11 => ?_) (fun c_11 => ?_)
  · refine go_bipush (-2) dX11_sheet_20 (by decide) ?_
    refine go_ireturn dX11_sheet_22 rfl rfl (Nat.le_of_ble_eq_true rfl) (Nat.le_of_ble_eq_true rfl) ?_
    exact Or.inl ⟨by first | exact Or.inl (full_t2 c_11) | exact Or.inr c_17, rfl, rfl⟩
  · refine go_iload_n dX11_sheet_14 rfl ?_
    refine go_bipush (60) dX11_sheet_15 (by decide) ?_
    refine go_icmp_le 23 dX11_sheet_17 (by decide) (fun c_17 => ?_) (fun c_17 => ?_)
    · refine go_iload_n dX11_sheet_23 rfl ?_
      refine go_if_ge 33 dX11_sheet_24 (by decide) (fun c_24 => ?_) (fun c_24 => ?_)
      · obtain ⟨hn1, hn2⟩ := in_range (x := n) (n := 61) (by simpa using c_24) (fun q => absurd c_17 (Int32.not_le.mpr (show (60 : Int32) < n from lt_succ (n := 60) (by decide) q))) (by decide)
        refine go_aload_n dX11_sheet_33 rfl ?_
        refine go_getf fX11_68 dX11_sheet_34 rfl rfl ?_
        refine go_iload_n dX11_sheet_37 rfl ?_
        refine go_aald dX11_sheet_38 rfl (vp_in_nI (n := 1) (by decide) (by decide)) rfl ?_
        refine go_iload_n dX11_sheet_39 rfl ?_
        refine go_iload_n dX11_sheet_40 rfl ?_
        rw [show Value.int n = Value.int (nI n.toNatClampNeg) by rw [← hn1]]
        refine go_callV (z := MX6_renew) [38, 39] dX11_sheet_41 lX11_259 sX6_renew (ev_X6_renew _ _ _ form n.toNatClampNeg (by omega) _) rfl rfl rfl rfl rfl ⟨_, _, rfl⟩ (fit_of rfl) (res_of rfl) (fun v w1 h => by obtain ⟨-, f2, rfl, -⟩ := h; rfl) (fun v_41 w_41 h_41 => ?_)
        obtain ⟨rfl, f2, rfl, hf2⟩ := h_41
        refine go_iload_n dX11_sheet_44 rfl ?_
        refine go_ireturn dX11_sheet_45 rfl rfl (Nat.le_of_ble_eq_true rfl) (Nat.le_of_ble_eq_true rfl) ?_
        exact Or.inr (Or.inr ⟨fun q => q.elim (full_t3 c_11) (fun q => q c_17), by simpa using c_24, rfl, f2, rfl, hf2⟩)
      · refine go_aload_n dX11_sheet_27 rfl ?_
        refine go_iconst (5) dX11_sheet_28 (by decide) ?_
        refine go_callVsw (z := MX11_finding) dX11_sheet_29 lX11_223 sX11_finding (ev_X11_finding t0 t1 G N T C D P S H0 H1 H2 H3 ta lf (5)) rfl rfl rfl ⟨_, _, rfl⟩ rfl rfl rfl ?_
        refine go_ireturn dX11_sheet_32 rfl rfl (Nat.le_of_ble_eq_true rfl) (Nat.le_of_ble_eq_true rfl) ?_
        exact Or.inr (Or.inl ⟨fun q => q.elim (full_t3 c_11) (fun q => q c_17), by simpa using c_24, rfl, rfl⟩)
    · refine go_bipush (-2) dX11_sheet_20 (by decide) ?_
      refine go_ireturn dX11_sheet_22 rfl rfl (Nat.le_of_ble_eq_true rfl) (Nat.le_of_ble_eq_true rfl) ?_
      exact Or.inl ⟨by first | exact Or.inl (full_t2 c_11) | exact Or.inr c_17, rfl, rfl⟩
set_option maxRecDepth 100000 in
theorem ev_lose1 (t0 t1 : TX) (G N : TG) (T : TT) (C D : TC) (P : TP) (S : TS) (H0 H1 H2 H3 : TH) (ta : Nat → Int32) (lf : Int32) : Ev MX11_lose [.ref 0, .int 1] (cwd t0 t1 G N T C D P S H0 H1 H2 H3 ta lf) (fun v w => ¬ H1.1 = 0 ∧ v = some (.int (-11)) ∧ w = (cwd t0 t1 G N T C D P S H0 H1 H2 H3 ta 1) ∨ H1.1 = 0 ∧ v = some (.int (nI H1.2.2.1)) ∧ w = (cwd t0 t1 G N T C D P S H0 (1, H1.2.1, H1.2.2.1, H1.2.2.2) H2 H3 ta lf)) := by
  refine ev_of bX11_lose [some (.ref 0), some (.int 1)] (Nat.le_of_ble_eq_true rfl) rfl ?_
  refine go_iload_n dX11_lose_0 rfl ?_
  refine go_callSi (z := MX11_isSheet) [] dX11_lose_1 lX11_216 sX11_isSheet (ev_X11_isSheet _) rfl rfl rfl rfl rfl rfl ?_
  refine go_if_ne 10 dX11_lose_4 (by decide) (fun _ => ?_) (fun c_4 => absurd c_4 (by decide))
  refine go_aload_n dX11_lose_10 rfl ?_
  refine go_getf fX11_68 dX11_lose_11 rfl rfl ?_
  refine go_iload_n dX11_lose_14 rfl ?_
  refine go_aald dX11_lose_15 rfl (vp_in_nI (n := 1) (by decide) (by decide)) rfl ?_
  refine go_getf fX11_219 dX11_lose_16 rfl rfl ?_
  refine go_if_eq 28 dX11_lose_19 (by decide) (fun c_19 => ?_) (fun c_19 => ?_)
  · refine go_aload_n dX11_lose_28 rfl ?_
    refine go_getf fX11_68 dX11_lose_29 rfl rfl ?_
    refine go_iload_n dX11_lose_32 rfl ?_
    refine go_aald dX11_lose_33 rfl (vp_in_nI (n := 1) (by decide) (by decide)) rfl ?_
    refine go_iconst (1) dX11_lose_34 (by decide) ?_
    refine go_putf fX11_219 dX11_lose_35 rfl (fun _ _ _ h => by cases h; rfl) (fun _ => rfl) (fun _ => rfl) (Nat.le_of_ble_eq_true rfl) ?_
    refine go_aload_n dX11_lose_38 rfl ?_
    refine go_getf fX11_68 dX11_lose_39 rfl rfl ?_
    refine go_iload_n dX11_lose_42 rfl ?_
    refine go_aald dX11_lose_43 rfl (vp_in_nI (n := 1) (by decide) (by decide)) rfl ?_
    refine go_getf fX11_226 dX11_lose_44 rfl rfl ?_
    refine go_ireturn dX11_lose_47 rfl rfl (Nat.le_of_ble_eq_true rfl) (Nat.le_of_ble_eq_true rfl) ?_
    exact Or.inr ⟨c_19, rfl, rfl⟩
  · refine go_aload_n dX11_lose_22 rfl ?_
    refine go_iconst (1) dX11_lose_23 (by decide) ?_
    refine go_callVsw (z := MX11_finding) dX11_lose_24 lX11_223 sX11_finding (ev_X11_finding t0 t1 G N T C D P S H0 H1 H2 H3 ta lf (1)) rfl rfl rfl ⟨_, _, rfl⟩ rfl rfl rfl ?_
    refine go_ireturn dX11_lose_27 rfl rfl (Nat.le_of_ble_eq_true rfl) (Nat.le_of_ble_eq_true rfl) ?_
    exact Or.inl ⟨c_19, rfl, rfl⟩
set_option maxRecDepth 100000 in
theorem ev_lay1 (t0 t1 : TX) (G N : TG) (T : TT) (C D : TC) (P : TP) (S : TS) (H0 H1 H2 H3 : TH) (ta : Nat → Int32) (lf : Int32) (form i v : Int32) (hz : H1.2.2.1 ≤ 60) : Ev MX11_lay [.ref 0, .int 1, .int form, .int i, .int v] (cwd t0 t1 G N T C D P S H0 H1 H2 H3 ta lf) (fun u w => (form < 0 ∨ 3 ≤ form) ∧ u = some (.int (-2)) ∧ w = (cwd t0 t1 G N T C D P S H0 H1 H2 H3 ta lf) ∨ ¬ (form < 0 ∨ 3 ≤ form) ∧ ¬ (if ¬ H1.1 = 0 then 1 else if ¬ H1.2.1 = form then 3 else if i < 0 ∨ ¬ i < nI H1.2.2.1 then 2 else (0 : Int32)) = 0 ∧ u = some (.int (-10 - (if ¬ H1.1 = 0 then 1 else if ¬ H1.2.1 = form then 3 else if i < 0 ∨ ¬ i < nI H1.2.2.1 then 2 else (0 : Int32)))) ∧ w = (cwd t0 t1 G N T C D P S H0 H1 H2 H3 ta (if ¬ H1.1 = 0 then 1 else if ¬ H1.2.1 = form then 3 else if i < 0 ∨ ¬ i < nI H1.2.2.1 then 2 else (0 : Int32))) ∨ ¬ (form < 0 ∨ 3 ≤ form) ∧ (if ¬ H1.1 = 0 then 1 else if ¬ H1.2.1 = form then 3 else if i < 0 ∨ ¬ i < nI H1.2.2.1 then 2 else (0 : Int32)) = 0 ∧ u = some (.int 1) ∧ w = (cwd t0 t1 G N T C D P S H0 (H1.1, H1.2.1, H1.2.2.1, upd H1.2.2.2 i.toNatClampNeg (cutI H1.2.1 v)) H2 H3 ta lf)) := by
  refine ev_of bX11_lay [some (.ref 0), some (.int 1), some (.int form), some (.int i), some (.int v), none] (Nat.le_of_ble_eq_true rfl) rfl ?_
  refine go_iload_n dX11_lay_0 rfl ?_
  refine go_callSi (z := MX11_isSheet) [] dX11_lay_1 lX11_216 sX11_isSheet (ev_X11_isSheet _) rfl rfl rfl rfl rfl rfl ?_
  refine go_if_eq 14 dX11_lay_4 (by decide) (fun c_4 => absurd c_4 (by decide)) (fun _ => ?_)
  refine go_iload_n dX11_lay_7 rfl ?_
  refine go_callSi (z := MX11_isForm) [] dX11_lay_8 lX11_256 sX11_isForm (ev_X11_isForm _) rfl rfl rfl rfl rfl rfl ?_
  refine go_if_ne 17 dX11_lay_11 (by decide) (fun c_11 => ?_) (fun c_11 => ?_)
  · refine go_aload_n dX11_lay_17 rfl ?_
    refine go_getf fX11_68 dX11_lay_18 rfl rfl ?_
    refine go_iload_n dX11_lay_21 rfl ?_
    refine go_aald dX11_lay_22 rfl (vp_in_nI (n := 1) (by decide) (by decide)) rfl ?_
    refine go_iload_n dX11_lay_23 rfl ?_
    refine go_iload_n dX11_lay_24 rfl ?_
    refine go_callVi (z := MX6_findingAt) [38, 39] dX11_lay_25 lX11_262 sX6_findingAt (ev_X6_findingAt _ _ _ form i _) rfl rfl rfl rfl rfl ⟨_, _, rfl⟩ rfl rfl ?_
    refine go_istore dX11_lay_28 (by decide) ?_
    refine go_iload dX11_lay_30 rfl ?_
    refine go_if_eq 42 dX11_lay_32 (by decide) (fun c_32 => ?_) (fun c_32 => ?_)
    · have hi0 := find0 c_32
      obtain ⟨hi1, hi2⟩ := in_range (x := i) (n := H1.2.2.1) (fun q => hi0.2.2 (Or.inl q)) (fun q => hi0.2.2 (Or.inr (fun z => absurd q (by simpa using z)))) (by omega)
      refine go_aload_n dX11_lay_42 rfl ?_
      refine go_getf fX11_68 dX11_lay_43 rfl rfl ?_
      refine go_iload_n dX11_lay_46 rfl ?_
      refine go_aald dX11_lay_47 rfl (vp_in_nI (n := 1) (by decide) (by decide)) rfl ?_
      refine go_iload_n dX11_lay_48 rfl ?_
      refine go_iload dX11_lay_49 rfl ?_
      rw [show Value.int i = Value.int (nI i.toNatClampNeg) by rw [← hi1]]
      refine go_callVw (z := MX6_put) [38, 39] _ dX11_lay_51 lX11_265 sX6_put (ev_X6_put _ _ v i.toNatClampNeg H1.2.2.1 hi2 hz _) rfl rfl rfl rfl rfl ⟨_, _, rfl⟩ rfl rfl rfl rfl ?_
      refine go_iconst (1) dX11_lay_54 (by decide) ?_
      refine go_ireturn dX11_lay_55 rfl rfl (Nat.le_of_ble_eq_true rfl) (Nat.le_of_ble_eq_true rfl) ?_
      exact Or.inr (Or.inr ⟨full_t3 c_11, c_32, rfl, rfl⟩)
    · refine go_aload_n dX11_lay_35 rfl ?_
      refine go_iload dX11_lay_36 rfl ?_
      refine go_callVsw (z := MX11_finding) dX11_lay_38 lX11_223 sX11_finding (ev_X11_finding t0 t1 G N T C D P S H0 H1 H2 H3 ta lf ((if ¬ H1.1 = 0 then 1 else if ¬ H1.2.1 = form then 3 else if i < 0 ∨ ¬ i < nI H1.2.2.1 then 2 else (0 : Int32)))) rfl rfl rfl ⟨_, _, rfl⟩ rfl rfl rfl ?_
      refine go_ireturn dX11_lay_41 rfl rfl (Nat.le_of_ble_eq_true rfl) (Nat.le_of_ble_eq_true rfl) ?_
      exact Or.inr (Or.inl ⟨full_t3 c_11, c_32, rfl, rfl⟩)
  · refine go_bipush (-2) dX11_lay_14 (by decide) ?_
    refine go_ireturn dX11_lay_16 rfl rfl (Nat.le_of_ble_eq_true rfl) (Nat.le_of_ble_eq_true rfl) ?_
    exact Or.inl ⟨full_t2 c_11, rfl, rfl⟩
set_option maxRecDepth 100000 in
theorem ev_get1 (t0 t1 : TX) (G N : TG) (T : TT) (C D : TC) (P : TP) (S : TS) (H0 H1 H2 H3 : TH) (ta : Nat → Int32) (lf : Int32) (form i : Int32) (hz : H1.2.2.1 ≤ 60) : Ev MX11_get [.ref 0, .int 1, .int form, .int i] (cwd t0 t1 G N T C D P S H0 H1 H2 H3 ta lf) (fun u w => (form < 0 ∨ 3 ≤ form) ∧ u = some (.int (-2147483648)) ∧ w = (cwd t0 t1 G N T C D P S H0 H1 H2 H3 ta lf) ∨ ¬ (form < 0 ∨ 3 ≤ form) ∧ ¬ (if ¬ H1.1 = 0 then 1 else if ¬ H1.2.1 = form then 3 else if i < 0 ∨ ¬ i < nI H1.2.2.1 then 2 else (0 : Int32)) = 0 ∧ u = some (.int (-2147483648)) ∧ w = (cwd t0 t1 G N T C D P S H0 H1 H2 H3 ta (if ¬ H1.1 = 0 then 1 else if ¬ H1.2.1 = form then 3 else if i < 0 ∨ ¬ i < nI H1.2.2.1 then 2 else (0 : Int32))) ∨ ¬ (form < 0 ∨ 3 ≤ form) ∧ (if ¬ H1.1 = 0 then 1 else if ¬ H1.2.1 = form then 3 else if i < 0 ∨ ¬ i < nI H1.2.2.1 then 2 else (0 : Int32)) = 0 ∧ u = some (.int (H1.2.2.2 i.toNatClampNeg)) ∧ w = (cwd t0 t1 G N T C D P S H0 H1 H2 H3 ta lf)) := by
  refine ev_of bX11_get [some (.ref 0), some (.int 1), some (.int form), some (.int i), none] (Nat.le_of_ble_eq_true rfl) rfl ?_
  refine go_iload_n dX11_get_0 rfl ?_
  refine go_callSi (z := MX11_isSheet) [] dX11_get_1 lX11_216 sX11_isSheet (ev_X11_isSheet _) rfl rfl rfl rfl rfl rfl ?_
  refine go_if_eq 14 dX11_get_4 (by decide) (fun c_4 => absurd c_4 (by decide)) (fun _ => ?_)
  refine go_iload_n dX11_get_7 rfl ?_
  refine go_callSi (z := MX11_isForm) [] dX11_get_8 lX11_256 sX11_isForm (ev_X11_isForm _) rfl rfl rfl rfl rfl rfl ?_
  refine go_if_ne 18 dX11_get_11 (by decide) (fun c_11 => ?_) (fun c_11 => ?_)
  · refine go_aload_n dX11_get_18 rfl ?_
    refine go_getf fX11_68 dX11_get_19 rfl rfl ?_
    refine go_iload_n dX11_get_22 rfl ?_
    refine go_aald dX11_get_23 rfl (vp_in_nI (n := 1) (by decide) (by decide)) rfl ?_
    refine go_iload_n dX11_get_24 rfl ?_
    refine go_iload_n dX11_get_25 rfl ?_
    refine go_callVi (z := MX6_findingAt) [38, 39] dX11_get_26 lX11_262 sX6_findingAt (ev_X6_findingAt _ _ _ form i _) rfl rfl rfl rfl rfl ⟨_, _, rfl⟩ rfl rfl ?_
    refine go_istore dX11_get_29 (by decide) ?_
    refine go_iload dX11_get_31 rfl ?_
    refine go_if_eq 46 dX11_get_33 (by decide) (fun c_33 => ?_) (fun c_33 => ?_)
    · have hi0 := find0 c_33
      refine go_aload_n dX11_get_46 rfl ?_
      refine go_getf fX11_68 dX11_get_47 rfl rfl ?_
      refine go_iload_n dX11_get_50 rfl ?_
      refine go_aald dX11_get_51 rfl (vp_in_nI (n := 1) (by decide) (by decide)) rfl ?_
      refine go_getf fX11_227 dX11_get_52 rfl rfl ?_
      refine go_iload_n dX11_get_55 rfl ?_
      refine go_iald dX11_get_56 rfl (vin_of (fun q => hi0.2.2 (Or.inl q)) (s := nI H1.2.2.1) (fun q => hi0.2.2 (Or.inr (fun z => absurd q (by simpa using z)))) (by rw [nI_toInt (by omega)]; omega)) ?_
      refine go_ireturn dX11_get_57 rfl rfl (Nat.le_of_ble_eq_true rfl) (Nat.le_of_ble_eq_true rfl) ?_
      exact Or.inr (Or.inr ⟨full_t3 c_11, c_33, rfl, rfl⟩)
    · refine go_aload_n dX11_get_36 rfl ?_
      refine go_iload dX11_get_37 rfl ?_
      refine go_putf fX11_269 dX11_get_39 rfl (fun _ _ _ h => by cases h; rfl) (fun _ => rfl) (fun _ => rfl) (Nat.le_of_ble_eq_true rfl) ?_
      refine go_ldc_w dX11_get_42 kX11_268 ?_
      refine go_ireturn dX11_get_45 rfl rfl (Nat.le_of_ble_eq_true rfl) (Nat.le_of_ble_eq_true rfl) ?_
      exact Or.inr (Or.inl ⟨full_t3 c_11, c_33, rfl, rfl⟩)
  · refine go_ldc_w dX11_get_14 kX11_268 ?_
    refine go_ireturn dX11_get_17 rfl rfl (Nat.le_of_ble_eq_true rfl) (Nat.le_of_ble_eq_true rfl) ?_
    exact Or.inl ⟨full_t2 c_11, rfl, rfl⟩
set_option maxRecDepth 100000 in
theorem ev_sheet2 (t0 t1 : TX) (G N : TG) (T : TT) (C D : TC) (P : TP) (S : TS) (H0 H1 H2 H3 : TH) (ta : Nat → Int32) (lf : Int32) (form n : Int32) : Ev MX11_sheet [.ref 0, .int 2, .int form, .int n] (cwd t0 t1 G N T C D P S H0 H1 H2 H3 ta lf) (fun v w => ((form < 0 ∨ 3 ≤ form) ∨ ¬ n ≤ 60) ∧ v = some (.int (-2)) ∧ w = (cwd t0 t1 G N T C D P S H0 H1 H2 H3 ta lf) ∨ ¬ ((form < 0 ∨ 3 ≤ form) ∨ ¬ n ≤ 60) ∧ n < 0 ∧ v = some (.int (-15)) ∧ w = (cwd t0 t1 G N T C D P S H0 H1 H2 H3 ta 5) ∨ ¬ ((form < 0 ∨ 3 ≤ form) ∨ ¬ n ≤ 60) ∧ ¬ n < 0 ∧ v = some (.int n) ∧ ∃ f2 : Nat → Int32, w = (cwd t0 t1 G N T C D P S H0 H1 (0, form, n.toNatClampNeg, f2) H3 ta lf) ∧ ∀ i, i < 60 → f2 i = 0) := by
  refine ev_of bX11_sheet [some (.ref 0), some (.int 2), some (.int form), some (.int n)] (Nat.le_of_ble_eq_true rfl) rfl ?_
  refine go_iload_n dX11_sheet_0 rfl ?_
  refine go_callSi (z := MX11_isSheet) [] dX11_sheet_1 lX11_216 sX11_isSheet (ev_X11_isSheet _) rfl rfl rfl rfl rfl rfl ?_
  refine go_if_eq 20 dX11_sheet_4 (by decide) (fun c_4 => absurd c_4 (by decide)) (fun _ => ?_)
  refine go_iload_n dX11_sheet_7 rfl ?_
  refine go_callSi (z := MX11_isForm) [] dX11_sheet_8 lX11_256 sX11_isForm (ev_X11_isForm _) rfl rfl rfl rfl rfl rfl ?_
  refine go_if_eq 20 dX11_sheet_11 (by decide) (fun c_11 => ?_) (fun c_11 => ?_)
  · refine go_bipush (-2) dX11_sheet_20 (by decide) ?_
    refine go_ireturn dX11_sheet_22 rfl rfl (Nat.le_of_ble_eq_true rfl) (Nat.le_of_ble_eq_true rfl) ?_
    exact Or.inl ⟨by first | exact Or.inl (full_t2 c_11) | exact Or.inr c_17, rfl, rfl⟩
  · refine go_iload_n dX11_sheet_14 rfl ?_
    refine go_bipush (60) dX11_sheet_15 (by decide) ?_
    refine go_icmp_le 23 dX11_sheet_17 (by decide) (fun c_17 => ?_) (fun c_17 => ?_)
    · refine go_iload_n dX11_sheet_23 rfl ?_
      refine go_if_ge 33 dX11_sheet_24 (by decide) (fun c_24 => ?_) (fun c_24 => ?_)
      · obtain ⟨hn1, hn2⟩ := in_range (x := n) (n := 61) (by simpa using c_24) (fun q => absurd c_17 (Int32.not_le.mpr (show (60 : Int32) < n from lt_succ (n := 60) (by decide) q))) (by decide)
        refine go_aload_n dX11_sheet_33 rfl ?_
        refine go_getf fX11_68 dX11_sheet_34 rfl rfl ?_
        refine go_iload_n dX11_sheet_37 rfl ?_
        refine go_aald dX11_sheet_38 rfl (vp_in_nI (n := 2) (by decide) (by decide)) rfl ?_
        refine go_iload_n dX11_sheet_39 rfl ?_
        refine go_iload_n dX11_sheet_40 rfl ?_
        rw [show Value.int n = Value.int (nI n.toNatClampNeg) by rw [← hn1]]
        refine go_callV (z := MX6_renew) [40, 41] dX11_sheet_41 lX11_259 sX6_renew (ev_X6_renew _ _ _ form n.toNatClampNeg (by omega) _) rfl rfl rfl rfl rfl ⟨_, _, rfl⟩ (fit_of rfl) (res_of rfl) (fun v w1 h => by obtain ⟨-, f2, rfl, -⟩ := h; rfl) (fun v_41 w_41 h_41 => ?_)
        obtain ⟨rfl, f2, rfl, hf2⟩ := h_41
        refine go_iload_n dX11_sheet_44 rfl ?_
        refine go_ireturn dX11_sheet_45 rfl rfl (Nat.le_of_ble_eq_true rfl) (Nat.le_of_ble_eq_true rfl) ?_
        exact Or.inr (Or.inr ⟨fun q => q.elim (full_t3 c_11) (fun q => q c_17), by simpa using c_24, rfl, f2, rfl, hf2⟩)
      · refine go_aload_n dX11_sheet_27 rfl ?_
        refine go_iconst (5) dX11_sheet_28 (by decide) ?_
        refine go_callVsw (z := MX11_finding) dX11_sheet_29 lX11_223 sX11_finding (ev_X11_finding t0 t1 G N T C D P S H0 H1 H2 H3 ta lf (5)) rfl rfl rfl ⟨_, _, rfl⟩ rfl rfl rfl ?_
        refine go_ireturn dX11_sheet_32 rfl rfl (Nat.le_of_ble_eq_true rfl) (Nat.le_of_ble_eq_true rfl) ?_
        exact Or.inr (Or.inl ⟨fun q => q.elim (full_t3 c_11) (fun q => q c_17), by simpa using c_24, rfl, rfl⟩)
    · refine go_bipush (-2) dX11_sheet_20 (by decide) ?_
      refine go_ireturn dX11_sheet_22 rfl rfl (Nat.le_of_ble_eq_true rfl) (Nat.le_of_ble_eq_true rfl) ?_
      exact Or.inl ⟨by first | exact Or.inl (full_t2 c_11) | exact Or.inr c_17, rfl, rfl⟩
set_option maxRecDepth 100000 in
theorem ev_lose2 (t0 t1 : TX) (G N : TG) (T : TT) (C D : TC) (P : TP) (S : TS) (H0 H1 H2 H3 : TH) (ta : Nat → Int32) (lf : Int32) : Ev MX11_lose [.ref 0, .int 2] (cwd t0 t1 G N T C D P S H0 H1 H2 H3 ta lf) (fun v w => ¬ H2.1 = 0 ∧ v = some (.int (-11)) ∧ w = (cwd t0 t1 G N T C D P S H0 H1 H2 H3 ta 1) ∨ H2.1 = 0 ∧ v = some (.int (nI H2.2.2.1)) ∧ w = (cwd t0 t1 G N T C D P S H0 H1 (1, H2.2.1, H2.2.2.1, H2.2.2.2) H3 ta lf)) := by
  refine ev_of bX11_lose [some (.ref 0), some (.int 2)] (Nat.le_of_ble_eq_true rfl) rfl ?_
  refine go_iload_n dX11_lose_0 rfl ?_
  refine go_callSi (z := MX11_isSheet) [] dX11_lose_1 lX11_216 sX11_isSheet (ev_X11_isSheet _) rfl rfl rfl rfl rfl rfl ?_
  refine go_if_ne 10 dX11_lose_4 (by decide) (fun _ => ?_) (fun c_4 => absurd c_4 (by decide))
  refine go_aload_n dX11_lose_10 rfl ?_
  refine go_getf fX11_68 dX11_lose_11 rfl rfl ?_
  refine go_iload_n dX11_lose_14 rfl ?_
  refine go_aald dX11_lose_15 rfl (vp_in_nI (n := 2) (by decide) (by decide)) rfl ?_
  refine go_getf fX11_219 dX11_lose_16 rfl rfl ?_
  refine go_if_eq 28 dX11_lose_19 (by decide) (fun c_19 => ?_) (fun c_19 => ?_)
  · refine go_aload_n dX11_lose_28 rfl ?_
    refine go_getf fX11_68 dX11_lose_29 rfl rfl ?_
    refine go_iload_n dX11_lose_32 rfl ?_
    refine go_aald dX11_lose_33 rfl (vp_in_nI (n := 2) (by decide) (by decide)) rfl ?_
    refine go_iconst (1) dX11_lose_34 (by decide) ?_
    refine go_putf fX11_219 dX11_lose_35 rfl (fun _ _ _ h => by cases h; rfl) (fun _ => rfl) (fun _ => rfl) (Nat.le_of_ble_eq_true rfl) ?_
    refine go_aload_n dX11_lose_38 rfl ?_
    refine go_getf fX11_68 dX11_lose_39 rfl rfl ?_
    refine go_iload_n dX11_lose_42 rfl ?_
    refine go_aald dX11_lose_43 rfl (vp_in_nI (n := 2) (by decide) (by decide)) rfl ?_
    refine go_getf fX11_226 dX11_lose_44 rfl rfl ?_
    refine go_ireturn dX11_lose_47 rfl rfl (Nat.le_of_ble_eq_true rfl) (Nat.le_of_ble_eq_true rfl) ?_
    exact Or.inr ⟨c_19, rfl, rfl⟩
  · refine go_aload_n dX11_lose_22 rfl ?_
    refine go_iconst (1) dX11_lose_23 (by decide) ?_
    refine go_callVsw (z := MX11_finding) dX11_lose_24 lX11_223 sX11_finding (ev_X11_finding t0 t1 G N T C D P S H0 H1 H2 H3 ta lf (1)) rfl rfl rfl ⟨_, _, rfl⟩ rfl rfl rfl ?_
    refine go_ireturn dX11_lose_27 rfl rfl (Nat.le_of_ble_eq_true rfl) (Nat.le_of_ble_eq_true rfl) ?_
    exact Or.inl ⟨c_19, rfl, rfl⟩
set_option maxRecDepth 100000 in
theorem ev_lay2 (t0 t1 : TX) (G N : TG) (T : TT) (C D : TC) (P : TP) (S : TS) (H0 H1 H2 H3 : TH) (ta : Nat → Int32) (lf : Int32) (form i v : Int32) (hz : H2.2.2.1 ≤ 60) : Ev MX11_lay [.ref 0, .int 2, .int form, .int i, .int v] (cwd t0 t1 G N T C D P S H0 H1 H2 H3 ta lf) (fun u w => (form < 0 ∨ 3 ≤ form) ∧ u = some (.int (-2)) ∧ w = (cwd t0 t1 G N T C D P S H0 H1 H2 H3 ta lf) ∨ ¬ (form < 0 ∨ 3 ≤ form) ∧ ¬ (if ¬ H2.1 = 0 then 1 else if ¬ H2.2.1 = form then 3 else if i < 0 ∨ ¬ i < nI H2.2.2.1 then 2 else (0 : Int32)) = 0 ∧ u = some (.int (-10 - (if ¬ H2.1 = 0 then 1 else if ¬ H2.2.1 = form then 3 else if i < 0 ∨ ¬ i < nI H2.2.2.1 then 2 else (0 : Int32)))) ∧ w = (cwd t0 t1 G N T C D P S H0 H1 H2 H3 ta (if ¬ H2.1 = 0 then 1 else if ¬ H2.2.1 = form then 3 else if i < 0 ∨ ¬ i < nI H2.2.2.1 then 2 else (0 : Int32))) ∨ ¬ (form < 0 ∨ 3 ≤ form) ∧ (if ¬ H2.1 = 0 then 1 else if ¬ H2.2.1 = form then 3 else if i < 0 ∨ ¬ i < nI H2.2.2.1 then 2 else (0 : Int32)) = 0 ∧ u = some (.int 1) ∧ w = (cwd t0 t1 G N T C D P S H0 H1 (H2.1, H2.2.1, H2.2.2.1, upd H2.2.2.2 i.toNatClampNeg (cutI H2.2.1 v)) H3 ta lf)) := by
  refine ev_of bX11_lay [some (.ref 0), some (.int 2), some (.int form), some (.int i), some (.int v), none] (Nat.le_of_ble_eq_true rfl) rfl ?_
  refine go_iload_n dX11_lay_0 rfl ?_
  refine go_callSi (z := MX11_isSheet) [] dX11_lay_1 lX11_216 sX11_isSheet (ev_X11_isSheet _) rfl rfl rfl rfl rfl rfl ?_
  refine go_if_eq 14 dX11_lay_4 (by decide) (fun c_4 => absurd c_4 (by decide)) (fun _ => ?_)
  refine go_iload_n dX11_lay_7 rfl ?_
  refine go_callSi (z := MX11_isForm) [] dX11_lay_8 lX11_256 sX11_isForm (ev_X11_isForm _) rfl rfl rfl rfl rfl rfl ?_
  refine go_if_ne 17 dX11_lay_11 (by decide) (fun c_11 => ?_) (fun c_11 => ?_)
  · refine go_aload_n dX11_lay_17 rfl ?_
    refine go_getf fX11_68 dX11_lay_18 rfl rfl ?_
    refine go_iload_n dX11_lay_21 rfl ?_
    refine go_aald dX11_lay_22 rfl (vp_in_nI (n := 2) (by decide) (by decide)) rfl ?_
    refine go_iload_n dX11_lay_23 rfl ?_
    refine go_iload_n dX11_lay_24 rfl ?_
    refine go_callVi (z := MX6_findingAt) [40, 41] dX11_lay_25 lX11_262 sX6_findingAt (ev_X6_findingAt _ _ _ form i _) rfl rfl rfl rfl rfl ⟨_, _, rfl⟩ rfl rfl ?_
    refine go_istore dX11_lay_28 (by decide) ?_
    refine go_iload dX11_lay_30 rfl ?_
    refine go_if_eq 42 dX11_lay_32 (by decide) (fun c_32 => ?_) (fun c_32 => ?_)
    · have hi0 := find0 c_32
      obtain ⟨hi1, hi2⟩ := in_range (x := i) (n := H2.2.2.1) (fun q => hi0.2.2 (Or.inl q)) (fun q => hi0.2.2 (Or.inr (fun z => absurd q (by simpa using z)))) (by omega)
      refine go_aload_n dX11_lay_42 rfl ?_
      refine go_getf fX11_68 dX11_lay_43 rfl rfl ?_
      refine go_iload_n dX11_lay_46 rfl ?_
      refine go_aald dX11_lay_47 rfl (vp_in_nI (n := 2) (by decide) (by decide)) rfl ?_
      refine go_iload_n dX11_lay_48 rfl ?_
      refine go_iload dX11_lay_49 rfl ?_
      rw [show Value.int i = Value.int (nI i.toNatClampNeg) by rw [← hi1]]
      refine go_callVw (z := MX6_put) [40, 41] _ dX11_lay_51 lX11_265 sX6_put (ev_X6_put _ _ v i.toNatClampNeg H2.2.2.1 hi2 hz _) rfl rfl rfl rfl rfl ⟨_, _, rfl⟩ rfl rfl rfl rfl ?_
      refine go_iconst (1) dX11_lay_54 (by decide) ?_
      refine go_ireturn dX11_lay_55 rfl rfl (Nat.le_of_ble_eq_true rfl) (Nat.le_of_ble_eq_true rfl) ?_
      exact Or.inr (Or.inr ⟨full_t3 c_11, c_32, rfl, rfl⟩)
    · refine go_aload_n dX11_lay_35 rfl ?_
      refine go_iload dX11_lay_36 rfl ?_
      refine go_callVsw (z := MX11_finding) dX11_lay_38 lX11_223 sX11_finding (ev_X11_finding t0 t1 G N T C D P S H0 H1 H2 H3 ta lf ((if ¬ H2.1 = 0 then 1 else if ¬ H2.2.1 = form then 3 else if i < 0 ∨ ¬ i < nI H2.2.2.1 then 2 else (0 : Int32)))) rfl rfl rfl ⟨_, _, rfl⟩ rfl rfl rfl ?_
      refine go_ireturn dX11_lay_41 rfl rfl (Nat.le_of_ble_eq_true rfl) (Nat.le_of_ble_eq_true rfl) ?_
      exact Or.inr (Or.inl ⟨full_t3 c_11, c_32, rfl, rfl⟩)
  · refine go_bipush (-2) dX11_lay_14 (by decide) ?_
    refine go_ireturn dX11_lay_16 rfl rfl (Nat.le_of_ble_eq_true rfl) (Nat.le_of_ble_eq_true rfl) ?_
    exact Or.inl ⟨full_t2 c_11, rfl, rfl⟩
set_option maxRecDepth 100000 in
theorem ev_get2 (t0 t1 : TX) (G N : TG) (T : TT) (C D : TC) (P : TP) (S : TS) (H0 H1 H2 H3 : TH) (ta : Nat → Int32) (lf : Int32) (form i : Int32) (hz : H2.2.2.1 ≤ 60) : Ev MX11_get [.ref 0, .int 2, .int form, .int i] (cwd t0 t1 G N T C D P S H0 H1 H2 H3 ta lf) (fun u w => (form < 0 ∨ 3 ≤ form) ∧ u = some (.int (-2147483648)) ∧ w = (cwd t0 t1 G N T C D P S H0 H1 H2 H3 ta lf) ∨ ¬ (form < 0 ∨ 3 ≤ form) ∧ ¬ (if ¬ H2.1 = 0 then 1 else if ¬ H2.2.1 = form then 3 else if i < 0 ∨ ¬ i < nI H2.2.2.1 then 2 else (0 : Int32)) = 0 ∧ u = some (.int (-2147483648)) ∧ w = (cwd t0 t1 G N T C D P S H0 H1 H2 H3 ta (if ¬ H2.1 = 0 then 1 else if ¬ H2.2.1 = form then 3 else if i < 0 ∨ ¬ i < nI H2.2.2.1 then 2 else (0 : Int32))) ∨ ¬ (form < 0 ∨ 3 ≤ form) ∧ (if ¬ H2.1 = 0 then 1 else if ¬ H2.2.1 = form then 3 else if i < 0 ∨ ¬ i < nI H2.2.2.1 then 2 else (0 : Int32)) = 0 ∧ u = some (.int (H2.2.2.2 i.toNatClampNeg)) ∧ w = (cwd t0 t1 G N T C D P S H0 H1 H2 H3 ta lf)) := by
  refine ev_of bX11_get [some (.ref 0), some (.int 2), some (.int form), some (.int i), none] (Nat.le_of_ble_eq_true rfl) rfl ?_
  refine go_iload_n dX11_get_0 rfl ?_
  refine go_callSi (z := MX11_isSheet) [] dX11_get_1 lX11_216 sX11_isSheet (ev_X11_isSheet _) rfl rfl rfl rfl rfl rfl ?_
  refine go_if_eq 14 dX11_get_4 (by decide) (fun c_4 => absurd c_4 (by decide)) (fun _ => ?_)
  refine go_iload_n dX11_get_7 rfl ?_
  refine go_callSi (z := MX11_isForm) [] dX11_get_8 lX11_256 sX11_isForm (ev_X11_isForm _) rfl rfl rfl rfl rfl rfl ?_
  refine go_if_ne 18 dX11_get_11 (by decide) (fun c_11 => ?_) (fun c_11 => ?_)
  · refine go_aload_n dX11_get_18 rfl ?_
    refine go_getf fX11_68 dX11_get_19 rfl rfl ?_
    refine go_iload_n dX11_get_22 rfl ?_
    refine go_aald dX11_get_23 rfl (vp_in_nI (n := 2) (by decide) (by decide)) rfl ?_
    refine go_iload_n dX11_get_24 rfl ?_
    refine go_iload_n dX11_get_25 rfl ?_
    refine go_callVi (z := MX6_findingAt) [40, 41] dX11_get_26 lX11_262 sX6_findingAt (ev_X6_findingAt _ _ _ form i _) rfl rfl rfl rfl rfl ⟨_, _, rfl⟩ rfl rfl ?_
    refine go_istore dX11_get_29 (by decide) ?_
    refine go_iload dX11_get_31 rfl ?_
    refine go_if_eq 46 dX11_get_33 (by decide) (fun c_33 => ?_) (fun c_33 => ?_)
    · have hi0 := find0 c_33
      refine go_aload_n dX11_get_46 rfl ?_
      refine go_getf fX11_68 dX11_get_47 rfl rfl ?_
      refine go_iload_n dX11_get_50 rfl ?_
      refine go_aald dX11_get_51 rfl (vp_in_nI (n := 2) (by decide) (by decide)) rfl ?_
      refine go_getf fX11_227 dX11_get_52 rfl rfl ?_
      refine go_iload_n dX11_get_55 rfl ?_
      refine go_iald dX11_get_56 rfl (vin_of (fun q => hi0.2.2 (Or.inl q)) (s := nI H2.2.2.1) (fun q => hi0.2.2 (Or.inr (fun z => absurd q (by simpa using z)))) (by rw [nI_toInt (by omega)]; omega)) ?_
      refine go_ireturn dX11_get_57 rfl rfl (Nat.le_of_ble_eq_true rfl) (Nat.le_of_ble_eq_true rfl) ?_
      exact Or.inr (Or.inr ⟨full_t3 c_11, c_33, rfl, rfl⟩)
    · refine go_aload_n dX11_get_36 rfl ?_
      refine go_iload dX11_get_37 rfl ?_
      refine go_putf fX11_269 dX11_get_39 rfl (fun _ _ _ h => by cases h; rfl) (fun _ => rfl) (fun _ => rfl) (Nat.le_of_ble_eq_true rfl) ?_
      refine go_ldc_w dX11_get_42 kX11_268 ?_
      refine go_ireturn dX11_get_45 rfl rfl (Nat.le_of_ble_eq_true rfl) (Nat.le_of_ble_eq_true rfl) ?_
      exact Or.inr (Or.inl ⟨full_t3 c_11, c_33, rfl, rfl⟩)
  · refine go_ldc_w dX11_get_14 kX11_268 ?_
    refine go_ireturn dX11_get_17 rfl rfl (Nat.le_of_ble_eq_true rfl) (Nat.le_of_ble_eq_true rfl) ?_
    exact Or.inl ⟨full_t2 c_11, rfl, rfl⟩
set_option maxRecDepth 100000 in
theorem ev_sheet3 (t0 t1 : TX) (G N : TG) (T : TT) (C D : TC) (P : TP) (S : TS) (H0 H1 H2 H3 : TH) (ta : Nat → Int32) (lf : Int32) (form n : Int32) : Ev MX11_sheet [.ref 0, .int 3, .int form, .int n] (cwd t0 t1 G N T C D P S H0 H1 H2 H3 ta lf) (fun v w => ((form < 0 ∨ 3 ≤ form) ∨ ¬ n ≤ 60) ∧ v = some (.int (-2)) ∧ w = (cwd t0 t1 G N T C D P S H0 H1 H2 H3 ta lf) ∨ ¬ ((form < 0 ∨ 3 ≤ form) ∨ ¬ n ≤ 60) ∧ n < 0 ∧ v = some (.int (-15)) ∧ w = (cwd t0 t1 G N T C D P S H0 H1 H2 H3 ta 5) ∨ ¬ ((form < 0 ∨ 3 ≤ form) ∨ ¬ n ≤ 60) ∧ ¬ n < 0 ∧ v = some (.int n) ∧ ∃ f2 : Nat → Int32, w = (cwd t0 t1 G N T C D P S H0 H1 H2 (0, form, n.toNatClampNeg, f2) ta lf) ∧ ∀ i, i < 60 → f2 i = 0) := by
  refine ev_of bX11_sheet [some (.ref 0), some (.int 3), some (.int form), some (.int n)] (Nat.le_of_ble_eq_true rfl) rfl ?_
  refine go_iload_n dX11_sheet_0 rfl ?_
  refine go_callSi (z := MX11_isSheet) [] dX11_sheet_1 lX11_216 sX11_isSheet (ev_X11_isSheet _) rfl rfl rfl rfl rfl rfl ?_
  refine go_if_eq 20 dX11_sheet_4 (by decide) (fun c_4 => absurd c_4 (by decide)) (fun _ => ?_)
  refine go_iload_n dX11_sheet_7 rfl ?_
  refine go_callSi (z := MX11_isForm) [] dX11_sheet_8 lX11_256 sX11_isForm (ev_X11_isForm _) rfl rfl rfl rfl rfl rfl ?_
  refine go_if_eq 20 dX11_sheet_11 (by decide) (fun c_11 => ?_) (fun c_11 => ?_)
  · refine go_bipush (-2) dX11_sheet_20 (by decide) ?_
    refine go_ireturn dX11_sheet_22 rfl rfl (Nat.le_of_ble_eq_true rfl) (Nat.le_of_ble_eq_true rfl) ?_
    exact Or.inl ⟨by first | exact Or.inl (full_t2 c_11) | exact Or.inr c_17, rfl, rfl⟩
  · refine go_iload_n dX11_sheet_14 rfl ?_
    refine go_bipush (60) dX11_sheet_15 (by decide) ?_
    refine go_icmp_le 23 dX11_sheet_17 (by decide) (fun c_17 => ?_) (fun c_17 => ?_)
    · refine go_iload_n dX11_sheet_23 rfl ?_
      refine go_if_ge 33 dX11_sheet_24 (by decide) (fun c_24 => ?_) (fun c_24 => ?_)
      · obtain ⟨hn1, hn2⟩ := in_range (x := n) (n := 61) (by simpa using c_24) (fun q => absurd c_17 (Int32.not_le.mpr (show (60 : Int32) < n from lt_succ (n := 60) (by decide) q))) (by decide)
        refine go_aload_n dX11_sheet_33 rfl ?_
        refine go_getf fX11_68 dX11_sheet_34 rfl rfl ?_
        refine go_iload_n dX11_sheet_37 rfl ?_
        refine go_aald dX11_sheet_38 rfl (vp_in_nI (n := 3) (by decide) (by decide)) rfl ?_
        refine go_iload_n dX11_sheet_39 rfl ?_
        refine go_iload_n dX11_sheet_40 rfl ?_
        rw [show Value.int n = Value.int (nI n.toNatClampNeg) by rw [← hn1]]
        refine go_callV (z := MX6_renew) [42, 43] dX11_sheet_41 lX11_259 sX6_renew (ev_X6_renew _ _ _ form n.toNatClampNeg (by omega) _) rfl rfl rfl rfl rfl ⟨_, _, rfl⟩ (fit_of rfl) (res_of rfl) (fun v w1 h => by obtain ⟨-, f2, rfl, -⟩ := h; rfl) (fun v_41 w_41 h_41 => ?_)
        obtain ⟨rfl, f2, rfl, hf2⟩ := h_41
        refine go_iload_n dX11_sheet_44 rfl ?_
        refine go_ireturn dX11_sheet_45 rfl rfl (Nat.le_of_ble_eq_true rfl) (Nat.le_of_ble_eq_true rfl) ?_
        exact Or.inr (Or.inr ⟨fun q => q.elim (full_t3 c_11) (fun q => q c_17), by simpa using c_24, rfl, f2, rfl, hf2⟩)
      · refine go_aload_n dX11_sheet_27 rfl ?_
        refine go_iconst (5) dX11_sheet_28 (by decide) ?_
        refine go_callVsw (z := MX11_finding) dX11_sheet_29 lX11_223 sX11_finding (ev_X11_finding t0 t1 G N T C D P S H0 H1 H2 H3 ta lf (5)) rfl rfl rfl ⟨_, _, rfl⟩ rfl rfl rfl ?_
        refine go_ireturn dX11_sheet_32 rfl rfl (Nat.le_of_ble_eq_true rfl) (Nat.le_of_ble_eq_true rfl) ?_
        exact Or.inr (Or.inl ⟨fun q => q.elim (full_t3 c_11) (fun q => q c_17), by simpa using c_24, rfl, rfl⟩)
    · refine go_bipush (-2) dX11_sheet_20 (by decide) ?_
      refine go_ireturn dX11_sheet_22 rfl rfl (Nat.le_of_ble_eq_true rfl) (Nat.le_of_ble_eq_true rfl) ?_
      exact Or.inl ⟨by first | exact Or.inl (full_t2 c_11) | exact Or.inr c_17, rfl, rfl⟩
set_option maxRecDepth 100000 in
theorem ev_lose3 (t0 t1 : TX) (G N : TG) (T : TT) (C D : TC) (P : TP) (S : TS) (H0 H1 H2 H3 : TH) (ta : Nat → Int32) (lf : Int32) : Ev MX11_lose [.ref 0, .int 3] (cwd t0 t1 G N T C D P S H0 H1 H2 H3 ta lf) (fun v w => ¬ H3.1 = 0 ∧ v = some (.int (-11)) ∧ w = (cwd t0 t1 G N T C D P S H0 H1 H2 H3 ta 1) ∨ H3.1 = 0 ∧ v = some (.int (nI H3.2.2.1)) ∧ w = (cwd t0 t1 G N T C D P S H0 H1 H2 (1, H3.2.1, H3.2.2.1, H3.2.2.2) ta lf)) := by
  refine ev_of bX11_lose [some (.ref 0), some (.int 3)] (Nat.le_of_ble_eq_true rfl) rfl ?_
  refine go_iload_n dX11_lose_0 rfl ?_
  refine go_callSi (z := MX11_isSheet) [] dX11_lose_1 lX11_216 sX11_isSheet (ev_X11_isSheet _) rfl rfl rfl rfl rfl rfl ?_
  refine go_if_ne 10 dX11_lose_4 (by decide) (fun _ => ?_) (fun c_4 => absurd c_4 (by decide))
  refine go_aload_n dX11_lose_10 rfl ?_
  refine go_getf fX11_68 dX11_lose_11 rfl rfl ?_
  refine go_iload_n dX11_lose_14 rfl ?_
  refine go_aald dX11_lose_15 rfl (vp_in_nI (n := 3) (by decide) (by decide)) rfl ?_
  refine go_getf fX11_219 dX11_lose_16 rfl rfl ?_
  refine go_if_eq 28 dX11_lose_19 (by decide) (fun c_19 => ?_) (fun c_19 => ?_)
  · refine go_aload_n dX11_lose_28 rfl ?_
    refine go_getf fX11_68 dX11_lose_29 rfl rfl ?_
    refine go_iload_n dX11_lose_32 rfl ?_
    refine go_aald dX11_lose_33 rfl (vp_in_nI (n := 3) (by decide) (by decide)) rfl ?_
    refine go_iconst (1) dX11_lose_34 (by decide) ?_
    refine go_putf fX11_219 dX11_lose_35 rfl (fun _ _ _ h => by cases h; rfl) (fun _ => rfl) (fun _ => rfl) (Nat.le_of_ble_eq_true rfl) ?_
    refine go_aload_n dX11_lose_38 rfl ?_
    refine go_getf fX11_68 dX11_lose_39 rfl rfl ?_
    refine go_iload_n dX11_lose_42 rfl ?_
    refine go_aald dX11_lose_43 rfl (vp_in_nI (n := 3) (by decide) (by decide)) rfl ?_
    refine go_getf fX11_226 dX11_lose_44 rfl rfl ?_
    refine go_ireturn dX11_lose_47 rfl rfl (Nat.le_of_ble_eq_true rfl) (Nat.le_of_ble_eq_true rfl) ?_
    exact Or.inr ⟨c_19, rfl, rfl⟩
  · refine go_aload_n dX11_lose_22 rfl ?_
    refine go_iconst (1) dX11_lose_23 (by decide) ?_
    refine go_callVsw (z := MX11_finding) dX11_lose_24 lX11_223 sX11_finding (ev_X11_finding t0 t1 G N T C D P S H0 H1 H2 H3 ta lf (1)) rfl rfl rfl ⟨_, _, rfl⟩ rfl rfl rfl ?_
    refine go_ireturn dX11_lose_27 rfl rfl (Nat.le_of_ble_eq_true rfl) (Nat.le_of_ble_eq_true rfl) ?_
    exact Or.inl ⟨c_19, rfl, rfl⟩
set_option maxRecDepth 100000 in
theorem ev_lay3 (t0 t1 : TX) (G N : TG) (T : TT) (C D : TC) (P : TP) (S : TS) (H0 H1 H2 H3 : TH) (ta : Nat → Int32) (lf : Int32) (form i v : Int32) (hz : H3.2.2.1 ≤ 60) : Ev MX11_lay [.ref 0, .int 3, .int form, .int i, .int v] (cwd t0 t1 G N T C D P S H0 H1 H2 H3 ta lf) (fun u w => (form < 0 ∨ 3 ≤ form) ∧ u = some (.int (-2)) ∧ w = (cwd t0 t1 G N T C D P S H0 H1 H2 H3 ta lf) ∨ ¬ (form < 0 ∨ 3 ≤ form) ∧ ¬ (if ¬ H3.1 = 0 then 1 else if ¬ H3.2.1 = form then 3 else if i < 0 ∨ ¬ i < nI H3.2.2.1 then 2 else (0 : Int32)) = 0 ∧ u = some (.int (-10 - (if ¬ H3.1 = 0 then 1 else if ¬ H3.2.1 = form then 3 else if i < 0 ∨ ¬ i < nI H3.2.2.1 then 2 else (0 : Int32)))) ∧ w = (cwd t0 t1 G N T C D P S H0 H1 H2 H3 ta (if ¬ H3.1 = 0 then 1 else if ¬ H3.2.1 = form then 3 else if i < 0 ∨ ¬ i < nI H3.2.2.1 then 2 else (0 : Int32))) ∨ ¬ (form < 0 ∨ 3 ≤ form) ∧ (if ¬ H3.1 = 0 then 1 else if ¬ H3.2.1 = form then 3 else if i < 0 ∨ ¬ i < nI H3.2.2.1 then 2 else (0 : Int32)) = 0 ∧ u = some (.int 1) ∧ w = (cwd t0 t1 G N T C D P S H0 H1 H2 (H3.1, H3.2.1, H3.2.2.1, upd H3.2.2.2 i.toNatClampNeg (cutI H3.2.1 v)) ta lf)) := by
  refine ev_of bX11_lay [some (.ref 0), some (.int 3), some (.int form), some (.int i), some (.int v), none] (Nat.le_of_ble_eq_true rfl) rfl ?_
  refine go_iload_n dX11_lay_0 rfl ?_
  refine go_callSi (z := MX11_isSheet) [] dX11_lay_1 lX11_216 sX11_isSheet (ev_X11_isSheet _) rfl rfl rfl rfl rfl rfl ?_
  refine go_if_eq 14 dX11_lay_4 (by decide) (fun c_4 => absurd c_4 (by decide)) (fun _ => ?_)
  refine go_iload_n dX11_lay_7 rfl ?_
  refine go_callSi (z := MX11_isForm) [] dX11_lay_8 lX11_256 sX11_isForm (ev_X11_isForm _) rfl rfl rfl rfl rfl rfl ?_
  refine go_if_ne 17 dX11_lay_11 (by decide) (fun c_11 => ?_) (fun c_11 => ?_)
  · refine go_aload_n dX11_lay_17 rfl ?_
    refine go_getf fX11_68 dX11_lay_18 rfl rfl ?_
    refine go_iload_n dX11_lay_21 rfl ?_
    refine go_aald dX11_lay_22 rfl (vp_in_nI (n := 3) (by decide) (by decide)) rfl ?_
    refine go_iload_n dX11_lay_23 rfl ?_
    refine go_iload_n dX11_lay_24 rfl ?_
    refine go_callVi (z := MX6_findingAt) [42, 43] dX11_lay_25 lX11_262 sX6_findingAt (ev_X6_findingAt _ _ _ form i _) rfl rfl rfl rfl rfl ⟨_, _, rfl⟩ rfl rfl ?_
    refine go_istore dX11_lay_28 (by decide) ?_
    refine go_iload dX11_lay_30 rfl ?_
    refine go_if_eq 42 dX11_lay_32 (by decide) (fun c_32 => ?_) (fun c_32 => ?_)
    · have hi0 := find0 c_32
      obtain ⟨hi1, hi2⟩ := in_range (x := i) (n := H3.2.2.1) (fun q => hi0.2.2 (Or.inl q)) (fun q => hi0.2.2 (Or.inr (fun z => absurd q (by simpa using z)))) (by omega)
      refine go_aload_n dX11_lay_42 rfl ?_
      refine go_getf fX11_68 dX11_lay_43 rfl rfl ?_
      refine go_iload_n dX11_lay_46 rfl ?_
      refine go_aald dX11_lay_47 rfl (vp_in_nI (n := 3) (by decide) (by decide)) rfl ?_
      refine go_iload_n dX11_lay_48 rfl ?_
      refine go_iload dX11_lay_49 rfl ?_
      rw [show Value.int i = Value.int (nI i.toNatClampNeg) by rw [← hi1]]
      refine go_callVw (z := MX6_put) [42, 43] _ dX11_lay_51 lX11_265 sX6_put (ev_X6_put _ _ v i.toNatClampNeg H3.2.2.1 hi2 hz _) rfl rfl rfl rfl rfl ⟨_, _, rfl⟩ rfl rfl rfl rfl ?_
      refine go_iconst (1) dX11_lay_54 (by decide) ?_
      refine go_ireturn dX11_lay_55 rfl rfl (Nat.le_of_ble_eq_true rfl) (Nat.le_of_ble_eq_true rfl) ?_
      exact Or.inr (Or.inr ⟨full_t3 c_11, c_32, rfl, rfl⟩)
    · refine go_aload_n dX11_lay_35 rfl ?_
      refine go_iload dX11_lay_36 rfl ?_
      refine go_callVsw (z := MX11_finding) dX11_lay_38 lX11_223 sX11_finding (ev_X11_finding t0 t1 G N T C D P S H0 H1 H2 H3 ta lf ((if ¬ H3.1 = 0 then 1 else if ¬ H3.2.1 = form then 3 else if i < 0 ∨ ¬ i < nI H3.2.2.1 then 2 else (0 : Int32)))) rfl rfl rfl ⟨_, _, rfl⟩ rfl rfl rfl ?_
      refine go_ireturn dX11_lay_41 rfl rfl (Nat.le_of_ble_eq_true rfl) (Nat.le_of_ble_eq_true rfl) ?_
      exact Or.inr (Or.inl ⟨full_t3 c_11, c_32, rfl, rfl⟩)
  · refine go_bipush (-2) dX11_lay_14 (by decide) ?_
    refine go_ireturn dX11_lay_16 rfl rfl (Nat.le_of_ble_eq_true rfl) (Nat.le_of_ble_eq_true rfl) ?_
    exact Or.inl ⟨full_t2 c_11, rfl, rfl⟩
set_option maxRecDepth 100000 in
theorem ev_get3 (t0 t1 : TX) (G N : TG) (T : TT) (C D : TC) (P : TP) (S : TS) (H0 H1 H2 H3 : TH) (ta : Nat → Int32) (lf : Int32) (form i : Int32) (hz : H3.2.2.1 ≤ 60) : Ev MX11_get [.ref 0, .int 3, .int form, .int i] (cwd t0 t1 G N T C D P S H0 H1 H2 H3 ta lf) (fun u w => (form < 0 ∨ 3 ≤ form) ∧ u = some (.int (-2147483648)) ∧ w = (cwd t0 t1 G N T C D P S H0 H1 H2 H3 ta lf) ∨ ¬ (form < 0 ∨ 3 ≤ form) ∧ ¬ (if ¬ H3.1 = 0 then 1 else if ¬ H3.2.1 = form then 3 else if i < 0 ∨ ¬ i < nI H3.2.2.1 then 2 else (0 : Int32)) = 0 ∧ u = some (.int (-2147483648)) ∧ w = (cwd t0 t1 G N T C D P S H0 H1 H2 H3 ta (if ¬ H3.1 = 0 then 1 else if ¬ H3.2.1 = form then 3 else if i < 0 ∨ ¬ i < nI H3.2.2.1 then 2 else (0 : Int32))) ∨ ¬ (form < 0 ∨ 3 ≤ form) ∧ (if ¬ H3.1 = 0 then 1 else if ¬ H3.2.1 = form then 3 else if i < 0 ∨ ¬ i < nI H3.2.2.1 then 2 else (0 : Int32)) = 0 ∧ u = some (.int (H3.2.2.2 i.toNatClampNeg)) ∧ w = (cwd t0 t1 G N T C D P S H0 H1 H2 H3 ta lf)) := by
  refine ev_of bX11_get [some (.ref 0), some (.int 3), some (.int form), some (.int i), none] (Nat.le_of_ble_eq_true rfl) rfl ?_
  refine go_iload_n dX11_get_0 rfl ?_
  refine go_callSi (z := MX11_isSheet) [] dX11_get_1 lX11_216 sX11_isSheet (ev_X11_isSheet _) rfl rfl rfl rfl rfl rfl ?_
  refine go_if_eq 14 dX11_get_4 (by decide) (fun c_4 => absurd c_4 (by decide)) (fun _ => ?_)
  refine go_iload_n dX11_get_7 rfl ?_
  refine go_callSi (z := MX11_isForm) [] dX11_get_8 lX11_256 sX11_isForm (ev_X11_isForm _) rfl rfl rfl rfl rfl rfl ?_
  refine go_if_ne 18 dX11_get_11 (by decide) (fun c_11 => ?_) (fun c_11 => ?_)
  · refine go_aload_n dX11_get_18 rfl ?_
    refine go_getf fX11_68 dX11_get_19 rfl rfl ?_
    refine go_iload_n dX11_get_22 rfl ?_
    refine go_aald dX11_get_23 rfl (vp_in_nI (n := 3) (by decide) (by decide)) rfl ?_
    refine go_iload_n dX11_get_24 rfl ?_
    refine go_iload_n dX11_get_25 rfl ?_
    refine go_callVi (z := MX6_findingAt) [42, 43] dX11_get_26 lX11_262 sX6_findingAt (ev_X6_findingAt _ _ _ form i _) rfl rfl rfl rfl rfl ⟨_, _, rfl⟩ rfl rfl ?_
    refine go_istore dX11_get_29 (by decide) ?_
    refine go_iload dX11_get_31 rfl ?_
    refine go_if_eq 46 dX11_get_33 (by decide) (fun c_33 => ?_) (fun c_33 => ?_)
    · have hi0 := find0 c_33
      refine go_aload_n dX11_get_46 rfl ?_
      refine go_getf fX11_68 dX11_get_47 rfl rfl ?_
      refine go_iload_n dX11_get_50 rfl ?_
      refine go_aald dX11_get_51 rfl (vp_in_nI (n := 3) (by decide) (by decide)) rfl ?_
      refine go_getf fX11_227 dX11_get_52 rfl rfl ?_
      refine go_iload_n dX11_get_55 rfl ?_
      refine go_iald dX11_get_56 rfl (vin_of (fun q => hi0.2.2 (Or.inl q)) (s := nI H3.2.2.1) (fun q => hi0.2.2 (Or.inr (fun z => absurd q (by simpa using z)))) (by rw [nI_toInt (by omega)]; omega)) ?_
      refine go_ireturn dX11_get_57 rfl rfl (Nat.le_of_ble_eq_true rfl) (Nat.le_of_ble_eq_true rfl) ?_
      exact Or.inr (Or.inr ⟨full_t3 c_11, c_33, rfl, rfl⟩)
    · refine go_aload_n dX11_get_36 rfl ?_
      refine go_iload dX11_get_37 rfl ?_
      refine go_putf fX11_269 dX11_get_39 rfl (fun _ _ _ h => by cases h; rfl) (fun _ => rfl) (fun _ => rfl) (Nat.le_of_ble_eq_true rfl) ?_
      refine go_ldc_w dX11_get_42 kX11_268 ?_
      refine go_ireturn dX11_get_45 rfl rfl (Nat.le_of_ble_eq_true rfl) (Nat.le_of_ble_eq_true rfl) ?_
      exact Or.inr (Or.inl ⟨full_t3 c_11, c_33, rfl, rfl⟩)
  · refine go_ldc_w dX11_get_14 kX11_268 ?_
    refine go_ireturn dX11_get_17 rfl rfl (Nat.le_of_ble_eq_true rfl) (Nat.le_of_ble_eq_true rfl) ?_
    exact Or.inl ⟨full_t2 c_11, rfl, rfl⟩
set_option maxRecDepth 100000 in
theorem ev_sheet_bad (t0 t1 : TX) (G N : TG) (T : TT) (C D : TC) (P : TP) (S : TS) (H0 H1 H2 H3 : TH) (ta : Nat → Int32) (lf : Int32) (x form n : Int32) (hx : x < 0 ∨ 4 ≤ x) : Ev MX11_sheet [.ref 0, .int x, .int form, .int n] (cwd t0 t1 G N T C D P S H0 H1 H2 H3 ta lf) (Ri (cwd t0 t1 G N T C D P S H0 H1 H2 H3 ta lf) (-2)) := by
  refine ev_of bX11_sheet [some (.ref 0), some (.int x), some (.int form), some (.int n)] (Nat.le_of_ble_eq_true rfl) rfl ?_
  refine go_iload_n dX11_sheet_0 rfl ?_
  refine go_callSi (z := MX11_isSheet) [] dX11_sheet_1 lX11_216 sX11_isSheet (ev_X11_isSheet _) rfl rfl rfl rfl rfl rfl ?_
  refine go_if_eq 20 dX11_sheet_4 (by decide) (fun _ => ?_) (fun c_4 => absurd (if_pos hx) c_4)
  refine go_bipush (-2) dX11_sheet_20 (by decide) ?_
  refine go_ireturn dX11_sheet_22 rfl rfl (Nat.le_of_ble_eq_true rfl) (Nat.le_of_ble_eq_true rfl) ?_
  exact ⟨rfl, rfl⟩
set_option maxRecDepth 100000 in
theorem ev_lose_bad (t0 t1 : TX) (G N : TG) (T : TT) (C D : TC) (P : TP) (S : TS) (H0 H1 H2 H3 : TH) (ta : Nat → Int32) (lf : Int32) (x : Int32) (hx : x < 0 ∨ 4 ≤ x) : Ev MX11_lose [.ref 0, .int x] (cwd t0 t1 G N T C D P S H0 H1 H2 H3 ta lf) (Ri (cwd t0 t1 G N T C D P S H0 H1 H2 H3 ta lf) (-2)) := by
  refine ev_of bX11_lose [some (.ref 0), some (.int x)] (Nat.le_of_ble_eq_true rfl) rfl ?_
  refine go_iload_n dX11_lose_0 rfl ?_
  refine go_callSi (z := MX11_isSheet) [] dX11_lose_1 lX11_216 sX11_isSheet (ev_X11_isSheet _) rfl rfl rfl rfl rfl rfl ?_
  refine go_if_ne 10 dX11_lose_4 (by decide) (fun c_4 => absurd (if_pos hx) c_4) (fun _ => ?_)
  refine go_bipush (-2) dX11_lose_7 (by decide) ?_
  refine go_ireturn dX11_lose_9 rfl rfl (Nat.le_of_ble_eq_true rfl) (Nat.le_of_ble_eq_true rfl) ?_
  exact ⟨rfl, rfl⟩
set_option maxRecDepth 100000 in
theorem ev_lay_bad (t0 t1 : TX) (G N : TG) (T : TT) (C D : TC) (P : TP) (S : TS) (H0 H1 H2 H3 : TH) (ta : Nat → Int32) (lf : Int32) (x form i v : Int32) (hx : x < 0 ∨ 4 ≤ x) : Ev MX11_lay [.ref 0, .int x, .int form, .int i, .int v] (cwd t0 t1 G N T C D P S H0 H1 H2 H3 ta lf) (Ri (cwd t0 t1 G N T C D P S H0 H1 H2 H3 ta lf) (-2)) := by
  refine ev_of bX11_lay [some (.ref 0), some (.int x), some (.int form), some (.int i), some (.int v), none] (Nat.le_of_ble_eq_true rfl) rfl ?_
  refine go_iload_n dX11_lay_0 rfl ?_
  refine go_callSi (z := MX11_isSheet) [] dX11_lay_1 lX11_216 sX11_isSheet (ev_X11_isSheet _) rfl rfl rfl rfl rfl rfl ?_
  refine go_if_eq 14 dX11_lay_4 (by decide) (fun _ => ?_) (fun c_4 => absurd (if_pos hx) c_4)
  refine go_bipush (-2) dX11_lay_14 (by decide) ?_
  refine go_ireturn dX11_lay_16 rfl rfl (Nat.le_of_ble_eq_true rfl) (Nat.le_of_ble_eq_true rfl) ?_
  exact ⟨rfl, rfl⟩
set_option maxRecDepth 100000 in
theorem ev_get_bad (t0 t1 : TX) (G N : TG) (T : TT) (C D : TC) (P : TP) (S : TS) (H0 H1 H2 H3 : TH) (ta : Nat → Int32) (lf : Int32) (x form i : Int32) (hx : x < 0 ∨ 4 ≤ x) : Ev MX11_get [.ref 0, .int x, .int form, .int i] (cwd t0 t1 G N T C D P S H0 H1 H2 H3 ta lf) (Ri (cwd t0 t1 G N T C D P S H0 H1 H2 H3 ta lf) (-2147483648)) := by
  refine ev_of bX11_get [some (.ref 0), some (.int x), some (.int form), some (.int i), none] (Nat.le_of_ble_eq_true rfl) rfl ?_
  refine go_iload_n dX11_get_0 rfl ?_
  refine go_callSi (z := MX11_isSheet) [] dX11_get_1 lX11_216 sX11_isSheet (ev_X11_isSheet _) rfl rfl rfl rfl rfl rfl ?_
  refine go_if_eq 14 dX11_get_4 (by decide) (fun _ => ?_) (fun c_4 => absurd (if_pos hx) c_4)
  refine go_ldc_w dX11_get_14 kX11_268 ?_
  refine go_ireturn dX11_get_17 rfl rfl (Nat.le_of_ble_eq_true rfl) (Nat.le_of_ble_eq_true rfl) ?_
  exact ⟨rfl, rfl⟩
