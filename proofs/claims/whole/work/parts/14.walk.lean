def CrsI (g : Nat) (pf : Nat → Int32) (nm : Nat → Nat) (s0 goal br : Int32) (j : Nat) (cm sx sg wn inn ft : Nat → Int32) (ab : Nat → Int64) (harm : Int64) : Prop :=
  (∀ t, t < j → cm t = wC g pf nm s0 goal br t ∧ sx t = wX g pf nm s0 goal br t) ∧ (∀ t, t ≤ j → sg t = (wst g pf nm s0 goal br t).1 ∧ wn t = (wst g pf nm s0 goal br t).2 ∧ ab t = wA g pf nm s0 goal br t ∧ inn t = wN g pf nm s0 goal br t) ∧ (∀ f, f < 8 → ft f = wF g pf nm s0 goal br j f) ∧ harm = wH g pf nm s0 goal br j
theorem crs_step {g : Nat} {pf : Nat → Int32} {nm : Nat → Nat} {s0 goal br : Int32} {j : Nat} {cm sx sg wn inn ft : Nat → Int32} {ab : Nat → Int64} {harm : Int64} (h8 : nm j < 8) (h : CrsI g pf nm s0 goal br j cm sx sg wn inn ft ab harm) :
    CrsI g pf nm s0 goal br (j + 1) (upd cm j (wC g pf nm s0 goal br j)) (upd sx j (sixI (wC g pf nm s0 goal br j) (sg j) (pf (5 * nm j + 1)))) (upd sg (j + 1) (strI (wC g pf nm s0 goal br j) (sg j) (sg 0))) (upd wn (j + 1) (wn j + winI (wC g pf nm s0 goal br j))) (upd inn (j + 1) (if wC g pf nm s0 goal br j = 3 ∧ ¬ (if pf (5 * nm j + 3) = 0 then (1 : Int32) else 0) = 0 then inn j + 1 else inn j)) (if ft (nm j) = -1 then upd ft (nm j) (wC g pf nm s0 goal br j) else ft) (vp_updL ab (j + 1) (if winI (wC g pf nm s0 goal br j) = 0 then ab j else ab j * (sixI (wC g pf nm s0 goal br j) (sg j) (pf (5 * nm j + 1))).toInt64)) (if wC g pf nm s0 goal br j = 3 ∧ ¬ (if pf (5 * nm j + 3) = 0 then (1 : Int32) else 0) = 0 then harm + (if winI (wC g pf nm s0 goal br j) = 0 then ab j else ab j * (sixI (wC g pf nm s0 goal br j) (sg j) (pf (5 * nm j + 1))).toInt64) <<< ((4 * (8 - (wn j + winI (wC g pf nm s0 goal br j)))).toInt64 &&& 63) else harm) := by
  obtain ⟨h1, h2, h3, h4⟩ := h
  obtain ⟨a1, a2, a3, a4⟩ := h2 j (Nat.le_refl _)
  have a0 := (h2 0 (Nat.zero_le _)).1
  have hq : (¬ (if pf (5 * nm j + 3) = 0 then (1 : Int32) else 0) = 0) ↔ pf (5 * nm j + 3) = 0 := by
    by_cases q : pf (5 * nm j + 3) = 0 <;> simp [q]
  refine ⟨fun t ht => ?_, fun t ht => ?_, fun f hf => ?_, ?_⟩
  · by_cases hj : t = j
    · subst hj
      rw [pk_us, pk_us, a1]
      exact ⟨rfl, rfl⟩
    · rw [pk_un hj, pk_un hj]
      exact h1 t (by omega)
  · by_cases hj : t = j + 1
    · subst hj
      rw [pk_us, pk_us, pk_uLs, pk_us, a1, a2, a3, a4, a0]
      refine ⟨rfl, rfl, rfl, ?_⟩
      simp only [wN, hq]
    · rw [pk_un hj, pk_un hj, pk_uLn hj, pk_un hj]
      exact h2 t (by omega)
  · rw [h3 (nm j) h8, wF]
    by_cases hn : nmd nm j (nm j) = false
    · rw [if_pos ((wF_ne _ _ _ _ _ _ _ _).mpr hn)]
      by_cases he : nm j = f
      · subst he
        rw [pk_us, if_pos ⟨hn, rfl⟩]
      · rw [pk_un (fun q => he q.symm), if_neg (fun q => he q.2)]
        exact h3 f hf
    · rw [if_neg (fun q => hn ((wF_ne _ _ _ _ _ _ _ _).mp q)), h3 f hf, if_neg]
      rintro ⟨q1, q2⟩
      rw [q2] at hn
      exact hn q1
  · simp only [wH, hq, a1, a2, a3, h4]
    rfl
theorem ev_whoE {nf : Int32} {r : Nat → Int32} {h j : Nat} (hj : j < h) (hh : h ≤ 12) : Ev MX4_whoAt [.ref 0, .int (nI j)] [zO 3 [.ref 1, .int (nI h), .int nf], zI 12 r] (Ri [zO 3 [.ref 1, .int (nI h), .int nf], zI 12 r] (r j)) := by
  have h1 := ev_X4_whoAt (nI h) nf (nI j) r (by rw [nI_toInt (by omega)]; omega)
  rw [if_neg, nI_clamp (by omega)] at h1
  · exact h1
  · rintro (q | q)
    · exact nI_pos (by omega) q
    · exact nI_ge hj (by omega) q
theorem has_if {a g : Nat} (ha : a < 2 ^ 31) (hg : g < 2 ^ 31) : (if nI a < 0 ∨ nI g ≤ nI a then (0 : Int32) else 1) = if a < g then 1 else 0 := by
  by_cases h : a < g
  · rw [has_t h hg, if_pos h]
  · rw [has_f (by omega) ha, if_neg h]
theorem has0 {a g : Nat} (h : (if a < g then (1 : Int32) else 0) = 0) : g ≤ a := by
  by_cases q : a < g
  · rw [if_pos q] at h; exact absurd h (by decide)
  · omega
theorem has1 {a g : Nat} (h : ¬ (if a < g then (1 : Int32) else 0) = 0) : a < g := by
  by_cases q : a < g
  · exact q
  · rw [if_neg q] at h; exact absurd rfl h
theorem fate_in {ft : Nat → Int32} {a : Nat} (h : a < 8) : (if nI a < 0 ∨ 8 ≤ nI a then (-1 : Int32) else ft (nI a).toNatClampNeg) = ft a := by
  rw [if_neg, nI_clamp (by omega)]
  rintro (q | q)
  · exact nI_pos (by omega) q
  · exact nI_ge (a := a) (b := 8) h (by decide) q
theorem void1 {P : Prop} [Decidable P] (h : ¬ (if P then (1 : Int32) else 0) = 0) : P := by
  by_cases q : P
  · exact q
  · rw [if_neg q] at h; exact absurd rfl h
theorem void0 {P : Prop} [Decidable P] (h : (if P then (1 : Int32) else 0) = 0) : ¬ P := fun q => by
  rw [if_pos q] at h; exact absurd h (by decide)
set_option maxRecDepth 100000 in
theorem ev_X0_walk (len goal0 : Int32) (harm : Int64) (cm sx sg wn inn ft : Nat → Int32) (ab : Nat → Int64) (g h : Nat) (hg : g ≤ 8) (hh12 : h ≤ 12) (gf nf : Int32) (pf r : Nat → Int32) (nm : Nat → Nat) (hr : ∀ i, i < h → r i = nI (nm i)) (hn8 : ∀ i, i < h → nm i < 8) (s0 goal br : Int32) : Ev MX0_walk [.ref 0, .ref 8, .ref 10, .int s0, .int goal, .int br] [zO 0 [.ref 1, .ref 2, .ref 3, .ref 4, .ref 5, .ref 6, .ref 7, .int len, .int goal0, .long harm], zI 12 cm, zI 12 sx, zI 13 sg, zI 13 wn, zL 13 ab, zI 13 inn, zI 8 ft, zO 1 [.ref 9, .int (nI g), .int gf], zI 40 pf, zO 3 [.ref 11, .int (nI h), .int nf], zI 12 r] (fun v w => v = none ∧ ∃ (cm sx sg wn inn ft : Nat → Int32) (ab : Nat → Int64), w = [zO 0 [.ref 1, .ref 2, .ref 3, .ref 4, .ref 5, .ref 6, .ref 7, .int (nI h), .int goal, .long (wH g pf nm s0 goal br h)], zI 12 cm, zI 12 sx, zI 13 sg, zI 13 wn, zL 13 ab, zI 13 inn, zI 8 ft, zO 1 [.ref 9, .int (nI g), .int gf], zI 40 pf, zO 3 [.ref 11, .int (nI h), .int nf], zI 12 r] ∧ CrsI g pf nm s0 goal br h cm sx sg wn inn ft ab (wH g pf nm s0 goal br h)) := by
  refine ev_of bX0_walk [some (.ref 0), some (.ref 8), some (.ref 10), some (.int s0), some (.int goal), some (.int br), none, none, none] (Nat.le_of_ble_eq_true rfl) rfl ?_
  refine go_aload_n dX0_walk_0 rfl ?_
  refine go_iload_n dX0_walk_1 rfl ?_
  refine go_iload dX0_walk_2 rfl ?_
  refine go_callV (z := MX0_setOut) [0, 1, 2, 3, 4, 5, 6, 7] dX0_walk_4 lX0_45 sX0_setOut (ev_X0_setOut _ _ _ _ _ _ _ _ _ _ s0 goal) rfl rfl rfl rfl rfl ⟨_, _, rfl⟩ (fit_of rfl) (res_of rfl) (fun v w1 h => by obtain ⟨-, ft2, rfl, -⟩ := h; rfl) (fun v_4 w_4 h_4 => ?_)
  obtain ⟨rfl, ft2, rfl, hft⟩ := h_4
  refine go_aload_n dX0_walk_7 rfl ?_
  refine go_aload_n dX0_walk_8 rfl ?_
  refine go_getf fX0_49 dX0_walk_9 rfl rfl ?_
  refine go_putf fX0_34 dX0_walk_12 rfl (fun _ _ _ h => by cases h; rfl) (fun _ => rfl) (fun _ => rfl) (Nat.le_of_ble_eq_true rfl) ?_
  refine go_iconst (0) dX0_walk_15 (by decide) ?_
  refine go_istore dX0_walk_16 (by decide) ?_
  suffices loop : ∀ (d j : Nat) (harm : Int64) (cm sx sg wn inn ft : Nat → Int32) (ab : Nat → Int64) (x7 x8 : Option Value), j + d = h → CrsI g pf nm s0 goal br j cm sx sg wn inn ft ab harm → Go X0 MX0_walk (fun v w => v = none ∧ ∃ (cm sx sg wn inn ft : Nat → Int32) (ab : Nat → Int64), w = [zO 0 [.ref 1, .ref 2, .ref 3, .ref 4, .ref 5, .ref 6, .ref 7, .int (nI h), .int goal, .long (wH g pf nm s0 goal br h)], zI 12 cm, zI 12 sx, zI 13 sg, zI 13 wn, zL 13 ab, zI 13 inn, zI 8 ft, zO 1 [.ref 9, .int (nI g), .int gf], zI 40 pf, zO 3 [.ref 11, .int (nI h), .int nf], zI 12 r] ∧ CrsI g pf nm s0 goal br h cm sx sg wn inn ft ab (wH g pf nm s0 goal br h)) 12 0 0 18 [some (.ref 0), some (.ref 8), some (.ref 10), some (.int s0), some (.int goal), some (.int br), some (.int (nI j)), x7, x8] [] [zO 0 [.ref 1, .ref 2, .ref 3, .ref 4, .ref 5, .ref 6, .ref 7, .int (nI h), .int goal, .long harm], zI 12 cm, zI 12 sx, zI 13 sg, zI 13 wn, zL 13 ab, zI 13 inn, zI 8 ft, zO 1 [.ref 9, .int (nI g), .int gf], zI 40 pf, zO 3 [.ref 11, .int (nI h), .int nf], zI 12 r] from
    loop h 0 0 cm sx (upd sg 0 s0) (upd wn 0 0) (upd inn 0 0) ft2 (vp_updL ab 0 1) _ _ (by omega) ⟨fun t ht => absurd ht (by omega), fun t ht => by
      obtain rfl : t = 0 := by omega
      exact ⟨pk_us, pk_us, pk_uLs, pk_us⟩, fun f hf => hft f hf, rfl⟩
  clear hft
  intro d
  induction d with
  | zero =>
    intro j harm cm sx sg wn inn ft ab x7 x8 hj hI
    obtain rfl : j = h := by omega
    have hh := hI.2.2.2
    subst hh
    refine go_iload dX0_walk_18 rfl ?_
    refine go_aload_n dX0_walk_20 rfl ?_
    refine go_getf fX0_34 dX0_walk_21 rfl rfl ?_
    refine go_icmp_ge 146 dX0_walk_24 (by decide) (fun _ => ?_) (fun c_24 => absurd (Int32.le_refl _) c_24)
    refine go_return dX0_walk_146 rfl (Nat.le_of_ble_eq_true rfl) (Nat.le_of_ble_eq_true rfl) ?_
    exact ⟨rfl, cm, sx, sg, wn, inn, ft, ab, rfl, hI⟩
  | succ d ih =>
    intro j harm cm sx sg wn inn ft ab x7 x8 hj hI
    have h8 := hn8 j (by omega)
    have hW := (hI.2.1 j (Nat.le_refl _)).2.1
    have hF : ft (nm j) = -1 ↔ nmd nm j (nm j) = false := by rw [hI.2.2.1 _ h8]; exact wF_ne _ _ _ _ _ _ _ _
    refine go_iload dX0_walk_18 rfl ?_
    refine go_aload_n dX0_walk_20 rfl ?_
    refine go_getf fX0_34 dX0_walk_21 rfl rfl ?_
    refine go_icmp_ge 146 dX0_walk_24 (by decide) (fun c_24 => absurd c_24 (nI_ge (by omega) (by omega))) (fun _ => ?_)
    refine go_aload_n dX0_walk_27 rfl ?_
    refine go_iload dX0_walk_28 rfl ?_
    refine go_callVi (z := MX4_whoAt) [10, 11] dX0_walk_30 lX0_54 sX4_whoAt (ev_whoE (j := j) (by omega) hh12) rfl rfl rfl rfl rfl ⟨_, _, rfl⟩ rfl rfl ?_
    rw [hr j (by omega)]
    refine go_istore dX0_walk_33 (by decide) ?_
    refine go_aload_n dX0_walk_35 rfl ?_
    refine go_getf fX0_21 dX0_walk_36 rfl rfl ?_
    refine go_iload dX0_walk_39 rfl ?_
    refine go_iald dX0_walk_41 rfl (vp_in_nI (n := j) (by omega) (by decide)) ?_
    rw [nI_clamp (show j < 2 ^ 31 by omega), hW]
    refine go_aload_n dX0_walk_42 rfl ?_
    refine go_getf fX0_38 dX0_walk_43 rfl rfl ?_
    refine go_cut2 (J := 73) (fun v => v = if goal ≤ (wst g pf nm s0 goal br j).2 ∨ g ≤ nm j ∨ nmd nm j (nm j) = true then 1 else 0) (fun v_73 hv_73 => ?_) (fun kk_73 => ?_)
    case refine_2 =>
      refine go_icmp_ge 68 dX0_walk_46 (by decide) (fun c_46 => ?_) (fun c_46 => ?_)
      · refine go_iconst (1) dX0_walk_68 (by decide) ?_
        refine go_goto 73 dX0_walk_69 (by decide) ?_
        exact kk_73 _ (by first | exact (if_pos (Or.inl c_46)).symm | exact (if_pos (Or.inr (Or.inl (has0 c_55)))).symm | exact (if_neg (fun q => q.elim c_46 (fun q => q.elim (fun q => absurd (has1 c_55) (by omega)) (fun q => by rw [hF.mp c_65] at q; cases q)))).symm | exact (if_pos (Or.inr (Or.inr (by simpa using mt hF.mpr c_65)))).symm)
      · refine go_aload_n dX0_walk_49 rfl ?_
        refine go_iload dX0_walk_50 rfl ?_
        refine go_callVi (z := MX2_has) [8, 9] dX0_walk_52 lX0_58 sX2_has (ev_X2_has _ _ _ _) rfl rfl rfl rfl rfl ⟨_, _, rfl⟩ rfl rfl ?_
        rw [has_if (show nm j < 2 ^ 31 by omega) (show g < 2 ^ 31 by omega)]
        refine go_if_eq 68 dX0_walk_55 (by decide) (fun c_55 => ?_) (fun c_55 => ?_)
        · refine go_iconst (1) dX0_walk_68 (by decide) ?_
          refine go_goto 73 dX0_walk_69 (by decide) ?_
          exact kk_73 _ (by first | exact (if_pos (Or.inl c_46)).symm | exact (if_pos (Or.inr (Or.inl (has0 c_55)))).symm | exact (if_neg (fun q => q.elim c_46 (fun q => q.elim (fun q => absurd (has1 c_55) (by omega)) (fun q => by rw [hF.mp c_65] at q; cases q)))).symm | exact (if_pos (Or.inr (Or.inr (by simpa using mt hF.mpr c_65)))).symm)
        · refine go_aload_n dX0_walk_58 rfl ?_
          refine go_iload dX0_walk_59 rfl ?_
          refine go_callVi (z := MX0_fateOf) [0, 1, 2, 3, 4, 5, 6, 7] dX0_walk_61 lX0_64 sX0_fateOf (ev_X0_fateOf _ _ _ _ _ _ _ _ _ _ _) rfl rfl rfl rfl rfl ⟨_, _, rfl⟩ rfl rfl ?_
          rw [fate_in h8]
          refine go_iconst (-1) dX0_walk_64 (by decide) ?_
          refine go_icmp_eq 72 dX0_walk_65 (by decide) (fun c_65 => ?_) (fun c_65 => ?_)
          · refine go_iconst (0) dX0_walk_72 (by decide) ?_
            exact kk_73 _ (by first | exact (if_pos (Or.inl c_46)).symm | exact (if_pos (Or.inr (Or.inl (has0 c_55)))).symm | exact (if_neg (fun q => q.elim c_46 (fun q => q.elim (fun q => absurd (has1 c_55) (by omega)) (fun q => by rw [hF.mp c_65] at q; cases q)))).symm | exact (if_pos (Or.inr (Or.inr (by simpa using mt hF.mpr c_65)))).symm)
          · refine go_iconst (1) dX0_walk_68 (by decide) ?_
            refine go_goto 73 dX0_walk_69 (by decide) ?_
            exact kk_73 _ (by first | exact (if_pos (Or.inl c_46)).symm | exact (if_pos (Or.inr (Or.inl (has0 c_55)))).symm | exact (if_neg (fun q => q.elim c_46 (fun q => q.elim (fun q => absurd (has1 c_55) (by omega)) (fun q => by rw [hF.mp c_65] at q; cases q)))).symm | exact (if_pos (Or.inr (Or.inr (by simpa using mt hF.mpr c_65)))).symm)
    subst hv_73
    refine go_istore dX0_walk_73 (by decide) ?_
    refine go_aload_n dX0_walk_75 rfl ?_
    refine go_getf fX0_9 dX0_walk_76 rfl rfl ?_
    refine go_iload dX0_walk_79 rfl ?_
    refine go_iload dX0_walk_81 rfl ?_
    refine go_cut1 (J := 98) (fun v => v = wC g pf nm s0 goal br j) (fun v_98 hv_98 => ?_) (fun kk_98 => ?_)
    case refine_2 =>
      refine go_if_eq 90 dX0_walk_83 (by decide) (fun c_83 => ?_) (fun c_83 => ?_)
      · refine go_aload_n dX0_walk_90 rfl ?_
        refine go_iload dX0_walk_91 rfl ?_
        refine go_iload dX0_walk_93 rfl ?_
        refine go_callVi (z := MX2_answerOf) [8, 9] dX0_walk_95 lX0_67 sX2_answerOf (ev_X2_answerOf _ _ br (nm j) h8 pf) rfl rfl rfl rfl rfl ⟨_, _, rfl⟩ rfl rfl ?_
        exact kk_98 _ (by first | exact (if_pos (void1 c_83)).symm | exact (if_neg (void0 c_83)).symm)
      · refine go_iconst (0) dX0_walk_86 (by decide) ?_
        refine go_goto 98 dX0_walk_87 (by decide) ?_
        exact kk_98 _ (by first | exact (if_pos (void1 c_83)).symm | exact (if_neg (void0 c_83)).symm)
    subst hv_98
    refine go_iast dX0_walk_98 rfl (vp_in_nI (n := j) (by omega) (by decide)) ?_
    refine go_aload_n dX0_walk_99 rfl ?_
    refine go_iload dX0_walk_100 rfl ?_
    refine go_aload_n dX0_walk_102 rfl ?_
    refine go_getf fX0_9 dX0_walk_103 rfl rfl ?_
    refine go_iload dX0_walk_106 rfl ?_
    refine go_iald dX0_walk_108 rfl (vp_in_nI (n := j) (by omega) (by decide)) ?_
    rw [nI_clamp (show j < 2 ^ 31 by omega), pk_us]
    refine go_callVw (z := MX0_markFate) [0, 1, 2, 3, 4, 5, 6, 7] _ dX0_walk_109 lX0_71 sX0_markFate (ev_X0_markFate _ _ _ _ _ _ _ _ _ _ (nm j) h8 _) rfl rfl rfl rfl rfl ⟨_, _, rfl⟩ rfl rfl rfl rfl ?_
    refine go_aload_n dX0_walk_112 rfl ?_
    refine go_iload dX0_walk_113 rfl ?_
    refine go_aload_n dX0_walk_115 rfl ?_
    refine go_iload dX0_walk_116 rfl ?_
    refine go_iconst (1) dX0_walk_118 (by decide) ?_
    refine go_callVi (z := MX2_part) [8, 9] dX0_walk_119 lX0_74 sX2_part (ev_partE (j := nm j) (k := 1) rfl rfl h8 (by decide)) rfl rfl rfl rfl rfl ⟨_, _, rfl⟩ rfl rfl ?_
    refine go_aload_n dX0_walk_122 rfl ?_
    refine go_iload dX0_walk_123 rfl ?_
    refine go_iconst (3) dX0_walk_125 (by decide) ?_
    refine go_callVi (z := MX2_part) [8, 9] dX0_walk_126 lX0_74 sX2_part (ev_partE (j := nm j) (k := 3) rfl rfl h8 (by decide)) rfl rfl rfl rfl rfl ⟨_, _, rfl⟩ rfl rfl ?_
    refine go_cut1 (J := 137) (fun v => v = if pf (5 * nm j + 3) = 0 then 1 else 0) (fun v_137 hv_137 => ?_) (fun kk_137 => ?_)
    case refine_2 =>
      refine go_if_ne 136 dX0_walk_129 (by decide) (fun c_129 => ?_) (fun c_129 => ?_)
      · refine go_iconst (0) dX0_walk_136 (by decide) ?_
        exact kk_137 _ (by simp [c_129])
      · refine go_iconst (1) dX0_walk_132 (by decide) ?_
        refine go_goto 137 dX0_walk_133 (by decide) ?_
        exact kk_137 _ (by simp [c_129])
    subst hv_137
    refine go_callVw (z := MX0_stepBehind) [0, 1, 2, 3, 4, 5, 6, 7] _ dX0_walk_137 lX0_77 sX0_stepBehind (ev_X0_stepBehind _ _ _ _ _ _ _ _ _ _ j (by omega) _ _) rfl rfl rfl rfl rfl ⟨_, _, rfl⟩ rfl rfl rfl rfl ?_
    refine go_iincN (1) dX0_walk_140 rfl (by decide) (by decide) ?_
    refine go_goto 18 dX0_walk_143 (by decide) ?_
    rw [nI_1]
    simp only [nI_clamp (show j < 2 ^ 31 by omega), pk_us]
    exact ih (j + 1) _ _ _ _ _ _ _ _ _ _ (by omega) (crs_step h8 hI)
set_option maxRecDepth 100000 in
theorem ev_X0_hasAllWins (goal : Int32) (harm : Int64) (cm sx sg wn inn ft : Nat → Int32) (ab : Nat → Int64) (h : Nat) (hh : h ≤ 12) : Ev MX0_hasAllWins [.ref 0] [zO 0 [.ref 1, .ref 2, .ref 3, .ref 4, .ref 5, .ref 6, .ref 7, .int (nI h), .int goal, .long harm], zI 12 cm, zI 12 sx, zI 13 sg, zI 13 wn, zL 13 ab, zI 13 inn, zI 8 ft] (Ri [zO 0 [.ref 1, .ref 2, .ref 3, .ref 4, .ref 5, .ref 6, .ref 7, .int (nI h), .int goal, .long harm], zI 12 cm, zI 12 sx, zI 13 sg, zI 13 wn, zL 13 ab, zI 13 inn, zI 8 ft] (if wn h < goal then 0 else 1)) := by
  refine ev_of bX0_hasAllWins [some (.ref 0)] (Nat.le_of_ble_eq_true rfl) rfl ?_
  refine go_aload_n dX0_hasAllWins_0 rfl ?_
  refine go_getf fX0_21 dX0_hasAllWins_1 rfl rfl ?_
  refine go_aload_n dX0_hasAllWins_4 rfl ?_
  refine go_getf fX0_34 dX0_hasAllWins_5 rfl rfl ?_
  refine go_iald dX0_hasAllWins_8 rfl (vp_in_nI (n := h) (by omega) (by decide)) ?_
  rw [nI_clamp (show h < 2 ^ 31 by omega)]
  refine go_aload_n dX0_hasAllWins_9 rfl ?_
  refine go_getf fX0_38 dX0_hasAllWins_10 rfl rfl ?_
  refine go_icmp_lt 20 dX0_hasAllWins_13 (by decide) (fun c_13 => ?_) (fun c_13 => ?_)
  · refine go_iconst (0) dX0_hasAllWins_20 (by decide) ?_
    refine go_ireturn dX0_hasAllWins_21 rfl (by decide) (Nat.le_of_ble_eq_true rfl) (Nat.le_of_ble_eq_true rfl) ?_
    exact ⟨by simp [*], rfl⟩
  · refine go_iconst (1) dX0_hasAllWins_16 (by decide) ?_
    refine go_goto 21 dX0_hasAllWins_17 (by decide) ?_
    refine go_ireturn dX0_hasAllWins_21 rfl (by decide) (Nat.le_of_ble_eq_true rfl) (Nat.le_of_ble_eq_true rfl) ?_
    exact ⟨by simp [*], rfl⟩
set_option maxRecDepth 100000 in
theorem ev_X0_livesAbove (goal : Int32) (harm : Int64) (cm sx sg wn inn ft : Nat → Int32) (ab : Nat → Int64) (h : Nat) (hh : h ≤ 12) : Ev MX0_livesAbove [.ref 0] [zO 0 [.ref 1, .ref 2, .ref 3, .ref 4, .ref 5, .ref 6, .ref 7, .int (nI h), .int goal, .long harm], zI 12 cm, zI 12 sx, zI 13 sg, zI 13 wn, zL 13 ab, zI 13 inn, zI 8 ft] (Rj [zO 0 [.ref 1, .ref 2, .ref 3, .ref 4, .ref 5, .ref 6, .ref 7, .int (nI h), .int goal, .long harm], zI 12 cm, zI 12 sx, zI 13 sg, zI 13 wn, zL 13 ab, zI 13 inn, zI 8 ft] (if wn h < goal then 0 else ab h)) := by
  refine ev_of bX0_livesAbove [some (.ref 0)] (Nat.le_of_ble_eq_true rfl) rfl ?_
  refine go_aload_n dX0_livesAbove_0 rfl ?_
  refine go_callVi (z := MX0_hasAllWins) [0, 1, 2, 3, 4, 5, 6, 7] dX0_livesAbove_1 lX0_94 sX0_hasAllWins (ev_X0_hasAllWins _ _ _ _ _ _ _ _ _ h hh) rfl rfl rfl rfl rfl ⟨_, _, rfl⟩ rfl rfl ?_
  refine go_if_eq 19 dX0_livesAbove_4 (by decide) (fun c_4 => ?_) (fun c_4 => ?_)
  · refine go_lconst 0 dX0_livesAbove_19 (by decide) ?_
    refine go_lreturn dX0_livesAbove_20 rfl (Nat.le_of_ble_eq_true rfl) (Nat.le_of_ble_eq_true rfl) ?_
    exact ⟨by (by_cases q : wn h < goal) <;> simp [q] at c_4 ⊢, rfl⟩
  · refine go_aload_n dX0_livesAbove_7 rfl ?_
    refine go_getf fX0_24 dX0_livesAbove_8 rfl rfl ?_
    refine go_aload_n dX0_livesAbove_11 rfl ?_
    refine go_getf fX0_34 dX0_livesAbove_12 rfl rfl ?_
    refine go_lald dX0_livesAbove_15 rfl (vp_in_nI (n := h) (by omega) (by decide)) ?_
    rw [nI_clamp (show h < 2 ^ 31 by omega)]
    refine go_goto 20 dX0_livesAbove_16 (by decide) ?_
    refine go_lreturn dX0_livesAbove_20 rfl (Nat.le_of_ble_eq_true rfl) (Nat.le_of_ble_eq_true rfl) ?_
    exact ⟨by (by_cases q : wn h < goal) <;> simp [q] at c_4 ⊢, rfl⟩
set_option maxRecDepth 100000 in
theorem ev_X0_fewestSixteenths (goal : Int32) (harm : Int64) (cm sx sg wn inn ft : Nat → Int32) (ab : Nat → Int64) (h : Nat) (hh : h ≤ 12) : Ev MX0_fewestSixteenths [.ref 0] [zO 0 [.ref 1, .ref 2, .ref 3, .ref 4, .ref 5, .ref 6, .ref 7, .int (nI h), .int goal, .long harm], zI 12 cm, zI 12 sx, zI 13 sg, zI 13 wn, zL 13 ab, zI 13 inn, zI 8 ft] (Ri [zO 0 [.ref 1, .ref 2, .ref 3, .ref 4, .ref 5, .ref 6, .ref 7, .int (nI h), .int goal, .long harm], zI 12 cm, zI 12 sx, zI 13 sg, zI 13 wn, zL 13 ab, zI 13 inn, zI 8 ft] (fwI sx h).1) := by
  refine ev_of bX0_fewestSixteenths [some (.ref 0), none, none, none] (Nat.le_of_ble_eq_true rfl) rfl ?_
  refine go_iconst (-1) dX0_fewestSixteenths_0 (by decide) ?_
  refine go_istore_n dX0_fewestSixteenths_1 (by decide) ?_
  refine go_bipush (17) dX0_fewestSixteenths_2 (by decide) ?_
  refine go_istore_n dX0_fewestSixteenths_4 (by decide) ?_
  refine go_iconst (0) dX0_fewestSixteenths_5 (by decide) ?_
  refine go_istore_n dX0_fewestSixteenths_6 (by decide) ?_
  suffices loop : ∀ (d i : Nat), i + d = h → Go X0 MX0_fewestSixteenths (Ri [zO 0 [.ref 1, .ref 2, .ref 3, .ref 4, .ref 5, .ref 6, .ref 7, .int (nI h), .int goal, .long harm], zI 12 cm, zI 12 sx, zI 13 sg, zI 13 wn, zL 13 ab, zI 13 inn, zI 8 ft] (fwI sx h).1) 8 0 0 7 [some (.ref 0), some (.int (fwI sx i).1), some (.int (fwI sx i).2), some (.int (nI i))] [] [zO 0 [.ref 1, .ref 2, .ref 3, .ref 4, .ref 5, .ref 6, .ref 7, .int (nI h), .int goal, .long harm], zI 12 cm, zI 12 sx, zI 13 sg, zI 13 wn, zL 13 ab, zI 13 inn, zI 8 ft] from loop h 0 (by omega)
  intro d
  induction d with
  | zero =>
    intro i hi
    obtain rfl : i = h := by omega
    refine go_iload_n dX0_fewestSixteenths_7 rfl ?_
    refine go_aload_n dX0_fewestSixteenths_8 rfl ?_
    refine go_getf fX0_34 dX0_fewestSixteenths_9 rfl rfl ?_
    refine go_icmp_ge 40 dX0_fewestSixteenths_12 (by decide) (fun _ => ?_) (fun c_12 => absurd (Int32.le_refl _) c_12)
    refine go_iload_n dX0_fewestSixteenths_40 rfl ?_
    refine go_ireturn dX0_fewestSixteenths_41 rfl rfl (Nat.le_of_ble_eq_true rfl) (Nat.le_of_ble_eq_true rfl) ?_
    exact ⟨rfl, rfl⟩
  | succ d ih =>
    intro i hi
    refine go_iload_n dX0_fewestSixteenths_7 rfl ?_
    refine go_aload_n dX0_fewestSixteenths_8 rfl ?_
    refine go_getf fX0_34 dX0_fewestSixteenths_9 rfl rfl ?_
    refine go_icmp_ge 40 dX0_fewestSixteenths_12 (by decide) (fun c_12 => absurd c_12 (nI_ge (by omega) (by omega))) (fun _ => ?_)
    refine go_aload_n dX0_fewestSixteenths_15 rfl ?_
    refine go_getf fX0_15 dX0_fewestSixteenths_16 rfl rfl ?_
    refine go_iload_n dX0_fewestSixteenths_19 rfl ?_
    refine go_iald dX0_fewestSixteenths_20 rfl (vp_in_nI (by omega) (by decide)) ?_
    rw [nI_clamp (show i < 2 ^ 31 by omega)]
    refine go_iload_n dX0_fewestSixteenths_21 rfl ?_
    refine go_icmp_ge 34 dX0_fewestSixteenths_22 (by decide) (fun c_22 => ?_) (fun c_22 => ?_)
    · refine go_iincN (1) dX0_fewestSixteenths_34 rfl (by decide) (by decide) ?_
      refine go_goto 7 dX0_fewestSixteenths_37 (by decide) ?_
      rw [nI_1]
      have e := ih (i + 1) (by omega)
      rw [fwI] at e
      first | (rw [if_pos c_22] at e; exact e) | (rw [if_neg c_22] at e; exact e)
    · refine go_aload_n dX0_fewestSixteenths_25 rfl ?_
      refine go_getf fX0_15 dX0_fewestSixteenths_26 rfl rfl ?_
      refine go_iload_n dX0_fewestSixteenths_29 rfl ?_
      refine go_iald dX0_fewestSixteenths_30 rfl (vp_in_nI (by omega) (by decide)) ?_
      rw [nI_clamp (show i < 2 ^ 31 by omega)]
      refine go_istore_n dX0_fewestSixteenths_31 (by decide) ?_
      refine go_iload_n dX0_fewestSixteenths_32 rfl ?_
      refine go_istore_n dX0_fewestSixteenths_33 (by decide) ?_
      refine go_iincN (1) dX0_fewestSixteenths_34 rfl (by decide) (by decide) ?_
      refine go_goto 7 dX0_fewestSixteenths_37 (by decide) ?_
      rw [nI_1]
      have e := ih (i + 1) (by omega)
      rw [fwI] at e
      first | (rw [if_pos c_22] at e; exact e) | (rw [if_neg c_22] at e; exact e)
set_option maxRecDepth 100000 in
theorem ev_X0_numberOfFights (goal : Int32) (harm : Int64) (cm sx sg wn inn ft : Nat → Int32) (ab : Nat → Int64) (h : Nat) (hh : h ≤ 12) : Ev MX0_numberOfFights [.ref 0] [zO 0 [.ref 1, .ref 2, .ref 3, .ref 4, .ref 5, .ref 6, .ref 7, .int (nI h), .int goal, .long harm], zI 12 cm, zI 12 sx, zI 13 sg, zI 13 wn, zL 13 ab, zI 13 inn, zI 8 ft] (Ri [zO 0 [.ref 1, .ref 2, .ref 3, .ref 4, .ref 5, .ref 6, .ref 7, .int (nI h), .int goal, .long harm], zI 12 cm, zI 12 sx, zI 13 sg, zI 13 wn, zL 13 ab, zI 13 inn, zI 8 ft] (fgI cm h)) := by
  refine ev_of bX0_numberOfFights [some (.ref 0), none, none] (Nat.le_of_ble_eq_true rfl) rfl ?_
  refine go_iconst (0) dX0_numberOfFights_0 (by decide) ?_
  refine go_istore_n dX0_numberOfFights_1 (by decide) ?_
  refine go_iconst (0) dX0_numberOfFights_2 (by decide) ?_
  refine go_istore_n dX0_numberOfFights_3 (by decide) ?_
  suffices loop : ∀ (d i : Nat), i + d = h → Go X0 MX0_numberOfFights (Ri [zO 0 [.ref 1, .ref 2, .ref 3, .ref 4, .ref 5, .ref 6, .ref 7, .int (nI h), .int goal, .long harm], zI 12 cm, zI 12 sx, zI 13 sg, zI 13 wn, zL 13 ab, zI 13 inn, zI 8 ft] (fgI cm h)) 8 0 0 4 [some (.ref 0), some (.int (fgI cm i)), some (.int (nI i))] [] [zO 0 [.ref 1, .ref 2, .ref 3, .ref 4, .ref 5, .ref 6, .ref 7, .int (nI h), .int goal, .long harm], zI 12 cm, zI 12 sx, zI 13 sg, zI 13 wn, zL 13 ab, zI 13 inn, zI 8 ft] from loop h 0 (by omega)
  intro d
  induction d with
  | zero =>
    intro i hi
    obtain rfl : i = h := by omega
    refine go_iload_n dX0_numberOfFights_4 rfl ?_
    refine go_aload_n dX0_numberOfFights_5 rfl ?_
    refine go_getf fX0_34 dX0_numberOfFights_6 rfl rfl ?_
    refine go_icmp_ge 31 dX0_numberOfFights_9 (by decide) (fun _ => ?_) (fun c_9 => absurd (Int32.le_refl _) c_9)
    refine go_iload_n dX0_numberOfFights_31 rfl ?_
    refine go_ireturn dX0_numberOfFights_32 rfl rfl (Nat.le_of_ble_eq_true rfl) (Nat.le_of_ble_eq_true rfl) ?_
    exact ⟨rfl, rfl⟩
  | succ d ih =>
    intro i hi
    refine go_iload_n dX0_numberOfFights_4 rfl ?_
    refine go_aload_n dX0_numberOfFights_5 rfl ?_
    refine go_getf fX0_34 dX0_numberOfFights_6 rfl rfl ?_
    refine go_icmp_ge 31 dX0_numberOfFights_9 (by decide) (fun c_9 => absurd c_9 (nI_ge (by omega) (by omega))) (fun _ => ?_)
    refine go_aload_n dX0_numberOfFights_12 rfl ?_
    refine go_getf fX0_9 dX0_numberOfFights_13 rfl rfl ?_
    refine go_iload_n dX0_numberOfFights_16 rfl ?_
    refine go_iald dX0_numberOfFights_17 rfl (vp_in_nI (by omega) (by decide)) ?_
    rw [nI_clamp (show i < 2 ^ 31 by omega)]
    refine go_iconst (3) dX0_numberOfFights_18 (by decide) ?_
    refine go_icmp_ne 25 dX0_numberOfFights_19 (by decide) (fun c_19 => ?_) (fun c_19 => ?_)
    · refine go_iincN (1) dX0_numberOfFights_25 rfl (by decide) (by decide) ?_
      refine go_goto 4 dX0_numberOfFights_28 (by decide) ?_
      rw [nI_1]
      have e := ih (i + 1) (by omega)
      rw [fgI] at e
      first | (rw [if_pos c_19] at e; exact e) | (rw [if_neg c_19] at e; exact e)
    · refine go_iincN (1) dX0_numberOfFights_22 rfl (by decide) (by decide) ?_
      refine go_iincN (1) dX0_numberOfFights_25 rfl (by decide) (by decide) ?_
      refine go_goto 4 dX0_numberOfFights_28 (by decide) ?_
      rw [nI_1]
      have e := ih (i + 1) (by omega)
      rw [fgI] at e
      first | (rw [if_pos c_19] at e; exact e) | (rw [if_neg c_19] at e; exact e)
set_option maxRecDepth 100000 in
theorem ev_X0_numberNotVoid (len goal : Int32) (harm : Int64) (cm sx sg wn inn ft : Nat → Int32) (ab : Nat → Int64) (g : Nat) (hg : g ≤ 8) : Ev MX0_numberNotVoid [.ref 0, .int (nI g)] [zO 0 [.ref 1, .ref 2, .ref 3, .ref 4, .ref 5, .ref 6, .ref 7, .int len, .int goal, .long harm], zI 12 cm, zI 12 sx, zI 13 sg, zI 13 wn, zL 13 ab, zI 13 inn, zI 8 ft] (Ri [zO 0 [.ref 1, .ref 2, .ref 3, .ref 4, .ref 5, .ref 6, .ref 7, .int len, .int goal, .long harm], zI 12 cm, zI 12 sx, zI 13 sg, zI 13 wn, zL 13 ab, zI 13 inn, zI 8 ft] (nvI ft g)) := by
  refine ev_of bX0_numberNotVoid [some (.ref 0), some (.int (nI g)), none, none] (Nat.le_of_ble_eq_true rfl) rfl ?_
  refine go_iconst (0) dX0_numberNotVoid_0 (by decide) ?_
  refine go_istore_n dX0_numberNotVoid_1 (by decide) ?_
  refine go_iconst (0) dX0_numberNotVoid_2 (by decide) ?_
  refine go_istore_n dX0_numberNotVoid_3 (by decide) ?_
  suffices loop : ∀ (d i : Nat), i + d = g → Go X0 MX0_numberNotVoid (Ri [zO 0 [.ref 1, .ref 2, .ref 3, .ref 4, .ref 5, .ref 6, .ref 7, .int len, .int goal, .long harm], zI 12 cm, zI 12 sx, zI 13 sg, zI 13 wn, zL 13 ab, zI 13 inn, zI 8 ft] (nvI ft g)) 8 0 0 4 [some (.ref 0), some (.int (nI g)), some (.int (nvI ft i)), some (.int (nI i))] [] [zO 0 [.ref 1, .ref 2, .ref 3, .ref 4, .ref 5, .ref 6, .ref 7, .int len, .int goal, .long harm], zI 12 cm, zI 12 sx, zI 13 sg, zI 13 wn, zL 13 ab, zI 13 inn, zI 8 ft] from loop g 0 (by omega)
  intro d
  induction d with
  | zero =>
    intro i hi
    obtain rfl : i = g := by omega
    refine go_iload_n dX0_numberNotVoid_4 rfl ?_
    refine go_iload_n dX0_numberNotVoid_5 rfl ?_
    refine go_icmp_ge 26 dX0_numberNotVoid_6 (by decide) (fun _ => ?_) (fun c_6 => absurd (Int32.le_refl _) c_6)
    refine go_iload_n dX0_numberNotVoid_26 rfl ?_
    refine go_ireturn dX0_numberNotVoid_27 rfl rfl (Nat.le_of_ble_eq_true rfl) (Nat.le_of_ble_eq_true rfl) ?_
    exact ⟨rfl, rfl⟩
  | succ d ih =>
    intro i hi
    refine go_iload_n dX0_numberNotVoid_4 rfl ?_
    refine go_iload_n dX0_numberNotVoid_5 rfl ?_
    refine go_icmp_ge 26 dX0_numberNotVoid_6 (by decide) (fun c_6 => absurd c_6 (nI_ge (by omega) (by omega))) (fun _ => ?_)
    refine go_aload_n dX0_numberNotVoid_9 rfl ?_
    refine go_iload_n dX0_numberNotVoid_10 rfl ?_
    refine go_callVi (z := MX0_fateOf) [0, 1, 2, 3, 4, 5, 6, 7] dX0_numberNotVoid_11 lX0_64 sX0_fateOf (ev_X0_fateOf _ _ _ _ _ _ _ _ _ _ _) rfl rfl rfl rfl rfl ⟨_, _, rfl⟩ rfl rfl ?_
    rw [fate_in (show i < 8 by omega)]
    refine go_if_le 20 dX0_numberNotVoid_14 (by decide) (fun c_14 => ?_) (fun c_14 => ?_)
    · refine go_iincN (1) dX0_numberNotVoid_20 rfl (by decide) (by decide) ?_
      refine go_goto 4 dX0_numberNotVoid_23 (by decide) ?_
      rw [nI_1]
      have e := ih (i + 1) (by omega)
      rw [nvI] at e
      first | (rw [if_pos c_14] at e; exact e) | (rw [if_neg c_14] at e; exact e)
    · refine go_iincN (1) dX0_numberNotVoid_17 rfl (by decide) (by decide) ?_
      refine go_iincN (1) dX0_numberNotVoid_20 rfl (by decide) (by decide) ?_
      refine go_goto 4 dX0_numberNotVoid_23 (by decide) ?_
      rw [nI_1]
      have e := ih (i + 1) (by omega)
      rw [nvI] at e
      first | (rw [if_pos c_14] at e; exact e) | (rw [if_neg c_14] at e; exact e)
set_option maxRecDepth 100000 in
theorem ev_X0_playTill (goal : Int32) (harm : Int64) (cm sx sg wn inn ft : Nat → Int32) (ab : Nat → Int64) (h : Nat) (hh : h ≤ 12) (s0 : Int32) : Ev MX0_playTill [.ref 0, .ref 8] [zO 0 [.ref 1, .ref 2, .ref 3, .ref 4, .ref 5, .ref 6, .ref 7, .int (nI h), .int goal, .long harm], zI 12 cm, zI 12 sx, zI 13 sg, zI 13 wn, zL 13 ab, zI 13 inn, zI 8 ft, zO 2 [.int s0]] (Rw (some (.int (nI (plI cm sx h 0 s0).1))) [zO 0 [.ref 1, .ref 2, .ref 3, .ref 4, .ref 5, .ref 6, .ref 7, .int (nI h), .int goal, .long harm], zI 12 cm, zI 12 sx, zI 13 sg, zI 13 wn, zL 13 ab, zI 13 inn, zI 8 ft, zO 2 [.int (plI cm sx h 0 s0).2]]) := by
  refine ev_of bX0_playTill [some (.ref 0), some (.ref 8), none] (Nat.le_of_ble_eq_true rfl) rfl ?_
  refine go_iconst (0) dX0_playTill_0 (by decide) ?_
  refine go_istore_n dX0_playTill_1 (by decide) ?_
  suffices loop : ∀ (d i : Nat) (s : Int32), i + d = h → plI cm sx h 0 s0 = plI cm sx d i s → Go X0 MX0_playTill (Rw (some (.int (nI (plI cm sx h 0 s0).1))) [zO 0 [.ref 1, .ref 2, .ref 3, .ref 4, .ref 5, .ref 6, .ref 7, .int (nI h), .int goal, .long harm], zI 12 cm, zI 12 sx, zI 13 sg, zI 13 wn, zL 13 ab, zI 13 inn, zI 8 ft, zO 2 [.int (plI cm sx h 0 s0).2]]) 9 0 0 2 [some (.ref 0), some (.ref 8), some (.int (nI i))] [] [zO 0 [.ref 1, .ref 2, .ref 3, .ref 4, .ref 5, .ref 6, .ref 7, .int (nI h), .int goal, .long harm], zI 12 cm, zI 12 sx, zI 13 sg, zI 13 wn, zL 13 ab, zI 13 inn, zI 8 ft, zO 2 [.int s]] from loop h 0 s0 (by omega) rfl
  intro d
  induction d with
  | zero =>
    intro i s hi he
    obtain rfl : i = h := by omega
    refine go_iload_n dX0_playTill_2 rfl ?_
    refine go_aload_n dX0_playTill_3 rfl ?_
    refine go_getf fX0_34 dX0_playTill_4 rfl rfl ?_
    refine go_icmp_ge 43 dX0_playTill_7 (by decide) (fun _ => ?_) (fun c_7 => absurd (Int32.le_refl _) c_7)
    refine go_aload_n dX0_playTill_43 rfl ?_
    refine go_getf fX0_34 dX0_playTill_44 rfl rfl ?_
    refine go_ireturn dX0_playTill_47 rfl rfl (Nat.le_of_ble_eq_true rfl) (Nat.le_of_ble_eq_true rfl) ?_
    exact ⟨by rw [he]; rfl, by rw [he]; rfl⟩
  | succ d ih =>
    intro i s hi he
    rw [plI] at he
    refine go_iload_n dX0_playTill_2 rfl ?_
    refine go_aload_n dX0_playTill_3 rfl ?_
    refine go_getf fX0_34 dX0_playTill_4 rfl rfl ?_
    refine go_icmp_ge 43 dX0_playTill_7 (by decide) (fun c_7 => absurd c_7 (nI_ge (by omega) (by omega))) (fun _ => ?_)
    refine go_aload_n dX0_playTill_10 rfl ?_
    refine go_getf fX0_9 dX0_playTill_11 rfl rfl ?_
    refine go_iload_n dX0_playTill_14 rfl ?_
    refine go_iald dX0_playTill_15 rfl (vp_in_nI (by omega) (by decide)) ?_
    rw [nI_clamp (show i < 2 ^ 31 by omega)]
    refine go_iconst (3) dX0_playTill_16 (by decide) ?_
    refine go_icmp_ne 37 dX0_playTill_17 (by decide) (fun c_17 => ?_) (fun c_17 => ?_)
    · refine go_iincN (1) dX0_playTill_37 rfl (by decide) (by decide) ?_
      refine go_goto 2 dX0_playTill_40 (by decide) ?_
      rw [nI_1]
      first | exact ih (i + 1) _ (by omega) (by rw [he, if_neg c_17]) | exact ih (i + 1) _ (by omega) (by rw [he, if_pos c_17, if_pos c_32])
    · refine go_aload_n dX0_playTill_20 rfl ?_
      refine go_bipush (16) dX0_playTill_21 (by decide) ?_
      refine go_callVw (z := MX3_draw) [8] _ dX0_playTill_23 lX0_98 sX3_draw (ev_X3_draw s) rfl rfl rfl rfl rfl ⟨_, _, rfl⟩ rfl rfl rfl rfl ?_
      refine go_aload_n dX0_playTill_26 rfl ?_
      refine go_getf fX0_15 dX0_playTill_27 rfl rfl ?_
      refine go_iload_n dX0_playTill_30 rfl ?_
      refine go_iald dX0_playTill_31 rfl (vp_in_nI (by omega) (by decide)) ?_
      rw [nI_clamp (show i < 2 ^ 31 by omega)]
      refine go_icmp_lt 37 dX0_playTill_32 (by decide) (fun c_32 => ?_) (fun c_32 => ?_)
      · refine go_iincN (1) dX0_playTill_37 rfl (by decide) (by decide) ?_
        refine go_goto 2 dX0_playTill_40 (by decide) ?_
        rw [nI_1]
        first | exact ih (i + 1) _ (by omega) (by rw [he, if_neg c_17]) | exact ih (i + 1) _ (by omega) (by rw [he, if_pos c_17, if_pos c_32])
      · refine go_iload_n dX0_playTill_35 rfl ?_
        refine go_ireturn dX0_playTill_36 rfl rfl (Nat.le_of_ble_eq_true rfl) (Nat.le_of_ble_eq_true rfl) ?_
        exact ⟨by rw [he, if_pos c_17, if_neg c_32], by rw [he, if_pos c_17, if_neg c_32]; rfl⟩
