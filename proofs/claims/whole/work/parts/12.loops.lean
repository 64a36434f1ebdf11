theorem gsz_le {n : Nat} {b : Nat → Int32} (h : n ≤ 47) : gsz n b ≤ 8 := by
  unfold gsz
  split <;> omega
theorem gsz_in {n i : Nat} {b : Nat → Int32} (h : i < gsz n b) : 6 * i + 5 ≤ n := by
  unfold gsz at h
  split at h <;> omega
theorem min8 {n : Nat} (h : n ≤ 47) : (if (nI n + 1) / 6 < (8 : Int32) then (nI n + 1) / 6 else 8) = nI ((n + 1) / 6) := by
  have e : (nI n + 1) / 6 = nI ((n + 1) / 6) := by rw [nI_1]; exact pk_div (d := 6) (by omega) (by decide) (by decide)
  rw [e]
  by_cases h2 : (n + 1) / 6 = 8
  · rw [h2]; rfl
  · exact if_pos (nI_lt (a := (n + 1) / 6) (b := 8) (by omega) (by decide))
theorem cap60 {k : Nat} (h : k ≤ 60) : (if (0 : Int32) < (if nI k < (60 : Int32) then nI k else 60) then (if nI k < (60 : Int32) then nI k else 60) else 0) = nI k := by
  have e : (if nI k < (60 : Int32) then nI k else 60) = nI k := by
    by_cases h2 : k = 60
    · subst h2; rfl
    · exact if_pos (nI_lt (a := k) (b := 60) (by omega) (by decide))
  rw [e]
  by_cases h2 : k = 0
  · subst h2; rfl
  · exact if_pos (nI_lt (a := 0) (b := k) (by omega) (by omega))
set_option maxRecDepth 100000 in
theorem ev_X2_parse (n cap : Nat) (hn : n ≤ cap) (h47 : n ≤ 47) (hc : cap < 2 ^ 31) (sz fp : Int32) (pf b : Nat → Int32) : Ev MX2_parse [.ref 0, .ref 2] [zO 1 [.ref 1, .int sz, .int fp], zI 40 pf, zO 8 [.ref 3, .int (nI n)], zI cap b] (fun v w => v = none ∧ ∃ pf2 : Nat → Int32, w = [zO 1 [.ref 1, .int (nI (gsz n b)), .int (fltI n b)], zI 40 pf2, zO 8 [.ref 3, .int (nI n)], zI cap b] ∧ ∀ f k, f < gsz n b → k < 5 → pf2 (5 * f + k) = prt k (b (6 * f + k))) := by
  refine ev_of bX2_parse [some (.ref 0), some (.ref 2), none, none, none] (Nat.le_of_ble_eq_true rfl) rfl ?_
  refine go_aload_n dX2_parse_0 rfl ?_
  refine go_aload_n dX2_parse_1 rfl ?_
  refine go_callSi (z := MX2_placeOfFault) [2, 3] dX2_parse_2 lX2_19 sX2_placeOfFault (ev_X2_placeOfFault n cap hn hc b) rfl rfl rfl rfl rfl rfl ?_
  refine go_putf fX2_15 dX2_parse_5 rfl (fun _ _ _ h => by cases h; rfl) (fun _ => rfl) (fun _ => rfl) (Nat.le_of_ble_eq_true rfl) ?_
  refine go_aload_n dX2_parse_8 rfl ?_
  refine go_aload_n dX2_parse_9 rfl ?_
  refine go_getf fX2_15 dX2_parse_10 rfl rfl ?_
  refine go_iconst (-1) dX2_parse_13 (by decide) ?_
  refine go_cut2 (J := 35) (fun v => v = nI (gsz n b)) (fun v_35 hv_35 => ?_) (fun kk_35 => ?_)
  case refine_2 =>
    refine go_icmp_ne 34 dX2_parse_14 (by decide) (fun c_14 => ?_) (fun c_14 => ?_)
    · refine go_iconst (0) dX2_parse_34 (by decide) ?_
      exact kk_35 _ (by simp [gsz, c_14] <;> rfl)
    · refine go_bipush (8) dX2_parse_17 (by decide) ?_
      refine go_aload_n dX2_parse_19 rfl ?_
      refine go_getf fX2_23 dX2_parse_20 rfl rfl ?_
      refine go_iconst (1) dX2_parse_23 (by decide) ?_
      refine go_iadd dX2_parse_24 ?_
      refine go_bipush (6) dX2_parse_25 (by decide) ?_
      refine go_idiv dX2_parse_27 (by decide) ?_
      refine go_min dX2_parse_28 lX2_28 (Nat.le_of_ble_eq_true rfl) (Nat.le_of_ble_eq_true rfl) (Nat.le_of_ble_eq_true rfl) (Nat.le_of_ble_eq_true rfl) ?_
      rw [min8 h47]
      refine go_goto 35 dX2_parse_31 (by decide) ?_
      exact kk_35 _ (by simp [gsz, c_14] <;> rfl)
  subst hv_35
  refine go_putf fX2_34 dX2_parse_35 rfl (fun _ _ _ h => by cases h; rfl) (fun _ => rfl) (fun _ => rfl) (Nat.le_of_ble_eq_true rfl) ?_
  refine go_iconst (0) dX2_parse_38 (by decide) ?_
  refine go_istore_n dX2_parse_39 (by decide) ?_
  have hg8 := gsz_le (b := b) h47
  suffices loop : ∀ (d i : Nat) (pf : Nat → Int32) (x3 x4 : Option Value), i + d = gsz n b → (∀ f k, f < i → k < 5 → pf (5 * f + k) = prt k (b (6 * f + k))) → Go X0 MX2_parse (fun v w => v = none ∧ ∃ pf2 : Nat → Int32, w = [zO 1 [.ref 1, .int (nI (gsz n b)), .int (fltI n b)], zI 40 pf2, zO 8 [.ref 3, .int (nI n)], zI cap b] ∧ ∀ f k, f < gsz n b → k < 5 → pf2 (5 * f + k) = prt k (b (6 * f + k))) 4 0 0 40 [some (.ref 0), some (.ref 2), some (.int (nI i)), x3, x4] [] [zO 1 [.ref 1, .int (nI (gsz n b)), .int (fltI n b)], zI 40 pf, zO 8 [.ref 3, .int (nI n)], zI cap b] from loop (gsz n b) 0 pf _ _ (by omega) (fun f k h => absurd h (by omega))
  intro d
  induction d with
  | zero =>
    intro i pf x3 x4 hi hr
    refine go_iload_n dX2_parse_40 rfl ?_
    refine go_aload_n dX2_parse_41 rfl ?_
    refine go_getf fX2_34 dX2_parse_42 rfl rfl ?_
    refine go_icmp_ge 180 dX2_parse_45 (by decide) (fun _ => ?_) (fun c_45 => absurd (nI_le (by omega) (by omega)) c_45)
    refine go_return dX2_parse_180 rfl (Nat.le_of_ble_eq_true rfl) (Nat.le_of_ble_eq_true rfl) ?_
    exact ⟨rfl, pf, rfl, fun f k hf hk => hr f k (by omega) hk⟩
  | succ d ih =>
    intro i pf x3 x4 hi hr
    have hin := gsz_in (show i < gsz n b by omega)
    refine go_iload_n dX2_parse_40 rfl ?_
    refine go_aload_n dX2_parse_41 rfl ?_
    refine go_getf fX2_34 dX2_parse_42 rfl rfl ?_
    refine go_icmp_ge 180 dX2_parse_45 (by decide) (fun c_45 => absurd c_45 (nI_ge (by omega) (by omega))) (fun _ => ?_)
    refine go_iload_n dX2_parse_48 rfl ?_
    refine go_bipush (6) dX2_parse_49 (by decide) ?_
    refine go_imul dX2_parse_51 ?_
    rw [show nI i * 6 = nI (6 * i) by rw [Nat.mul_comm]; exact pk_mul i 6]
    refine go_istore_n dX2_parse_52 (by decide) ?_
    refine go_iload_n dX2_parse_53 rfl ?_
    refine go_iconst (5) dX2_parse_54 (by decide) ?_
    refine go_imul dX2_parse_55 ?_
    rw [show nI i * 5 = nI (5 * i) by rw [Nat.mul_comm]; exact pk_mul i 5]
    refine go_istore dX2_parse_56 (by decide) ?_
    refine go_aload_n dX2_parse_58 rfl ?_
    refine go_getf fX2_9 dX2_parse_59 rfl rfl ?_
    refine go_iload dX2_parse_62 rfl ?_
    refine go_iconst (0) dX2_parse_64 (by decide) ?_
    refine go_iadd dX2_parse_65 ?_
    rw [show nI (5 * i) + 0 = nI (5 * i + 0) from nI_add (5 * i) 0]
    refine go_aload_n dX2_parse_66 rfl ?_
    refine go_iload_n dX2_parse_67 rfl ?_
    refine go_callVi (z := MX10_byteAt) [2, 3] dX2_parse_68 lX2_35 sX10_byteAt (ev_byteE (j := 6 * i + 0) rfl (by omega) hn hc) rfl rfl rfl rfl rfl ⟨_, _, rfl⟩ rfl rfl ?_
    refine go_callSi (z := MX2_kindOf) [] dX2_parse_71 lX2_39 sX2_kindOf (ev_X2_kindOf _) rfl rfl rfl rfl rfl rfl ?_
    refine go_iast dX2_parse_74 rfl (vp_in_nI (by omega) (by decide)) ?_
    refine go_aload_n dX2_parse_75 rfl ?_
    refine go_getf fX2_9 dX2_parse_76 rfl rfl ?_
    refine go_iload dX2_parse_79 rfl ?_
    refine go_iconst (1) dX2_parse_81 (by decide) ?_
    refine go_iadd dX2_parse_82 ?_
    rw [show nI (5 * i) + 1 = nI (5 * i + 1) from nI_add (5 * i) 1]
    refine go_aload_n dX2_parse_83 rfl ?_
    refine go_iload_n dX2_parse_84 rfl ?_
    refine go_iconst (1) dX2_parse_85 (by decide) ?_
    refine go_iadd dX2_parse_86 ?_
    rw [show nI (6 * i) + 1 = nI (6 * i + 1) from nI_add (6 * i) 1]
    refine go_callVi (z := MX10_byteAt) [2, 3] dX2_parse_87 lX2_35 sX10_byteAt (ev_byteE (j := 6 * i + 1) rfl (by omega) hn hc) rfl rfl rfl rfl rfl ⟨_, _, rfl⟩ rfl rfl ?_
    refine go_bipush (48) dX2_parse_90 (by decide) ?_
    refine go_isub dX2_parse_92 ?_
    refine go_iast dX2_parse_93 rfl (vp_in_nI (by omega) (by decide)) ?_
    refine go_aload_n dX2_parse_94 rfl ?_
    refine go_getf fX2_9 dX2_parse_95 rfl rfl ?_
    refine go_iload dX2_parse_98 rfl ?_
    refine go_iconst (2) dX2_parse_100 (by decide) ?_
    refine go_iadd dX2_parse_101 ?_
    rw [show nI (5 * i) + 2 = nI (5 * i + 2) from nI_add (5 * i) 2]
    refine go_aload_n dX2_parse_102 rfl ?_
    refine go_iload_n dX2_parse_103 rfl ?_
    refine go_iconst (2) dX2_parse_104 (by decide) ?_
    refine go_iadd dX2_parse_105 ?_
    rw [show nI (6 * i) + 2 = nI (6 * i + 2) from nI_add (6 * i) 2]
    refine go_callVi (z := MX10_byteAt) [2, 3] dX2_parse_106 lX2_35 sX10_byteAt (ev_byteE (j := 6 * i + 2) rfl (by omega) hn hc) rfl rfl rfl rfl rfl ⟨_, _, rfl⟩ rfl rfl ?_
    refine go_bipush (48) dX2_parse_109 (by decide) ?_
    refine go_isub dX2_parse_111 ?_
    refine go_iast dX2_parse_112 rfl (vp_in_nI (by omega) (by decide)) ?_
    refine go_aload_n dX2_parse_113 rfl ?_
    refine go_getf fX2_9 dX2_parse_114 rfl rfl ?_
    refine go_iload dX2_parse_117 rfl ?_
    refine go_iconst (3) dX2_parse_119 (by decide) ?_
    refine go_iadd dX2_parse_120 ?_
    rw [show nI (5 * i) + 3 = nI (5 * i + 3) from nI_add (5 * i) 3]
    refine go_aload_n dX2_parse_121 rfl ?_
    refine go_iload_n dX2_parse_122 rfl ?_
    refine go_iconst (3) dX2_parse_123 (by decide) ?_
    refine go_iadd dX2_parse_124 ?_
    rw [show nI (6 * i) + 3 = nI (6 * i + 3) from nI_add (6 * i) 3]
    refine go_callVi (z := MX10_byteAt) [2, 3] dX2_parse_125 lX2_35 sX10_byteAt (ev_byteE (j := 6 * i + 3) rfl (by omega) hn hc) rfl rfl rfl rfl rfl ⟨_, _, rfl⟩ rfl rfl ?_
    refine go_bipush (103) dX2_parse_128 (by decide) ?_
    refine go_cut2 (J := 138) (fun v => v = prt 3 (b (6 * i + 3))) (fun v_138 hv_138 => ?_) (fun kk_138 => ?_)
    case refine_2 =>
      refine go_icmp_ne 137 dX2_parse_130 (by decide) (fun c_130 => ?_) (fun c_130 => ?_)
      · refine go_iconst (0) dX2_parse_137 (by decide) ?_
        exact kk_138 _ (by simp [prt, c_130])
      · refine go_iconst (1) dX2_parse_133 (by decide) ?_
        refine go_goto 138 dX2_parse_134 (by decide) ?_
        exact kk_138 _ (by simp [prt, c_130])
    subst hv_138
    refine go_iast dX2_parse_138 rfl (vp_in_nI (by omega) (by decide)) ?_
    refine go_aload_n dX2_parse_139 rfl ?_
    refine go_getf fX2_9 dX2_parse_140 rfl rfl ?_
    refine go_iload dX2_parse_143 rfl ?_
    refine go_iconst (4) dX2_parse_145 (by decide) ?_
    refine go_iadd dX2_parse_146 ?_
    rw [show nI (5 * i) + 4 = nI (5 * i + 4) from nI_add (5 * i) 4]
    refine go_aload_n dX2_parse_147 rfl ?_
    refine go_iload_n dX2_parse_148 rfl ?_
    refine go_iconst (4) dX2_parse_149 (by decide) ?_
    refine go_iadd dX2_parse_150 ?_
    rw [show nI (6 * i) + 4 = nI (6 * i + 4) from nI_add (6 * i) 4]
    refine go_callVi (z := MX10_byteAt) [2, 3] dX2_parse_151 lX2_35 sX10_byteAt (ev_byteE (j := 6 * i + 4) rfl (by omega) hn hc) rfl rfl rfl rfl rfl ⟨_, _, rfl⟩ rfl rfl ?_
    refine go_bipush (46) dX2_parse_154 (by decide) ?_
    refine go_cut2 (J := 173) (fun v => v = prt 4 (b (6 * i + 4))) (fun v_173 hv_173 => ?_) (fun kk_173 => ?_)
    case refine_2 =>
      refine go_icmp_ne 163 dX2_parse_156 (by decide) (fun c_156 => ?_) (fun c_156 => ?_)
      · refine go_aload_n dX2_parse_163 rfl ?_
        refine go_iload_n dX2_parse_164 rfl ?_
        refine go_iconst (4) dX2_parse_165 (by decide) ?_
        refine go_iadd dX2_parse_166 ?_
        rw [show nI (6 * i) + 4 = nI (6 * i + 4) from nI_add (6 * i) 4]
        refine go_callVi (z := MX10_byteAt) [2, 3] dX2_parse_167 lX2_35 sX10_byteAt (ev_byteE (j := 6 * i + 4) rfl (by omega) hn hc) rfl rfl rfl rfl rfl ⟨_, _, rfl⟩ rfl rfl ?_
        refine go_bipush (48) dX2_parse_170 (by decide) ?_
        refine go_isub dX2_parse_172 ?_
        exact kk_173 _ (by simp [prt, c_156])
      · refine go_iconst (-1) dX2_parse_159 (by decide) ?_
        refine go_goto 173 dX2_parse_160 (by decide) ?_
        exact kk_173 _ (by simp [prt, c_156])
    subst hv_173
    refine go_iast dX2_parse_173 rfl (vp_in_nI (by omega) (by decide)) ?_
    refine go_iincN (1) dX2_parse_174 rfl (by decide) (by decide) ?_
    refine go_goto 40 dX2_parse_177 (by decide) ?_
    rw [nI_1]
    simp only [nI_clamp (show 5 * i + 0 < 2 ^ 31 by omega), nI_clamp (show 5 * i + 1 < 2 ^ 31 by omega), nI_clamp (show 5 * i + 2 < 2 ^ 31 by omega), nI_clamp (show 5 * i + 3 < 2 ^ 31 by omega), nI_clamp (show 5 * i + 4 < 2 ^ 31 by omega)]
    refine ih (i + 1) _ _ _ (by omega) (fun f k hf hk => ?_)
    by_cases hfi : f = i
    · subst hfi
      match k, hk with
      | 0, _ => simp [upd, prt]
      | 1, _ => simp [upd, prt]
      | 2, _ => simp [upd, prt]
      | 3, _ => simp [upd, prt]
      | 4, _ => simp [upd, prt]
      | k + 5, h => exact absurd h (by omega)
    · have hne : ∀ c, c < 5 → ¬ 5 * f + k = 5 * i + c := fun c hc => by omega
      simp only [upd, if_neg (hne 0 (by decide)), if_neg (hne 1 (by decide)), if_neg (hne 2 (by decide)), if_neg (hne 3 (by decide)), if_neg (hne 4 (by decide))]
      exact hr f k (by omega) hk
set_option maxRecDepth 100000 in
theorem ev_X6_renew (lost form0 sz0 form : Int32) (k : Nat) (hk : k ≤ 60) (f : Nat → Int32) : Ev MX6_renew [.ref 0, .int form, .int (nI k)] [zO 5 [.ref 1, .int lost, .int form0, .int sz0], zI 60 f] (fun v w => v = none ∧ ∃ f2 : Nat → Int32, w = [zO 5 [.ref 1, .int 0, .int form, .int (nI k)], zI 60 f2] ∧ ∀ i, i < 60 → f2 i = 0) := by
  refine ev_of bX6_renew [some (.ref 0), some (.int form), some (.int (nI k)), none] (Nat.le_of_ble_eq_true rfl) rfl ?_
  refine go_aload_n dX6_renew_0 rfl ?_
  refine go_iconst (0) dX6_renew_1 (by decide) ?_
  refine go_putf fX6_15 dX6_renew_2 rfl (fun _ _ _ h => by cases h; rfl) (fun _ => rfl) (fun _ => rfl) (Nat.le_of_ble_eq_true rfl) ?_
  refine go_aload_n dX6_renew_5 rfl ?_
  refine go_iload_n dX6_renew_6 rfl ?_
  refine go_putf fX6_19 dX6_renew_7 rfl (fun _ _ _ h => by cases h; rfl) (fun _ => rfl) (fun _ => rfl) (Nat.le_of_ble_eq_true rfl) ?_
  refine go_aload_n dX6_renew_10 rfl ?_
  refine go_iconst (0) dX6_renew_11 (by decide) ?_
  refine go_bipush (60) dX6_renew_12 (by decide) ?_
  refine go_iload_n dX6_renew_14 rfl ?_
  refine go_min dX6_renew_15 lX6_23 (Nat.le_of_ble_eq_true rfl) (Nat.le_of_ble_eq_true rfl) (Nat.le_of_ble_eq_true rfl) (Nat.le_of_ble_eq_true rfl) ?_
  refine go_max dX6_renew_18 lX6_29 (Nat.le_of_ble_eq_true rfl) (Nat.le_of_ble_eq_true rfl) (Nat.le_of_ble_eq_true rfl) (Nat.le_of_ble_eq_true rfl) ?_
  rw [cap60 hk]
  refine go_putf fX6_32 dX6_renew_21 rfl (fun _ _ _ h => by cases h; rfl) (fun _ => rfl) (fun _ => rfl) (Nat.le_of_ble_eq_true rfl) ?_
  refine go_iconst (0) dX6_renew_24 (by decide) ?_
  refine go_istore_n dX6_renew_25 (by decide) ?_
  suffices loop : ∀ (d i : Nat) (f : Nat → Int32), i + d = 60 → (∀ j, j < i → f j = 0) → Go X0 MX6_renew (fun v w => v = none ∧ ∃ f2 : Nat → Int32, w = [zO 5 [.ref 1, .int 0, .int form, .int (nI k)], zI 60 f2] ∧ ∀ i, i < 60 → f2 i = 0) 2 0 0 26 [some (.ref 0), some (.int form), some (.int (nI k)), some (.int (nI i))] [] [zO 5 [.ref 1, .int 0, .int form, .int (nI k)], zI 60 f] from loop 60 0 f (by omega) (fun j h => absurd h (by omega))
  intro d
  induction d with
  | zero =>
    intro i f hi hr
    refine go_iload_n dX6_renew_26 rfl ?_
    refine go_bipush (60) dX6_renew_27 (by decide) ?_
    refine go_icmp_ge 45 dX6_renew_29 (by decide) (fun _ => ?_) (fun c_29 => absurd (nI_le (a := 60) (by omega) (by omega)) c_29)
    refine go_return dX6_renew_45 rfl (Nat.le_of_ble_eq_true rfl) (Nat.le_of_ble_eq_true rfl) ?_
    exact ⟨rfl, f, rfl, fun j h => hr j (by omega)⟩
  | succ d ih =>
    intro i f hi hr
    refine go_iload_n dX6_renew_26 rfl ?_
    refine go_bipush (60) dX6_renew_27 (by decide) ?_
    refine go_icmp_ge 45 dX6_renew_29 (by decide) (fun c_29 => absurd c_29 (nI_ge (b := 60) (by omega) (by omega))) (fun _ => ?_)
    refine go_aload_n dX6_renew_32 rfl ?_
    refine go_getf fX6_9 dX6_renew_33 rfl rfl ?_
    refine go_iload_n dX6_renew_36 rfl ?_
    refine go_iconst (0) dX6_renew_37 (by decide) ?_
    refine go_iast dX6_renew_38 rfl (vp_in_nI (by omega) (by decide)) ?_
    refine go_iincN (1) dX6_renew_39 rfl (by decide) (by decide) ?_
    refine go_goto 26 dX6_renew_42 (by decide) ?_
    rw [nI_1]
    simp only [nI_clamp (show i < 2 ^ 31 by omega)]
    exact ih (i + 1) (upd f i 0) (by omega) (fun j h => by
      by_cases hj : j = i
      · subst hj; exact pk_us
      · rw [pk_un hj]; exact hr j (by omega))
set_option maxRecDepth 100000 in
theorem ev_X7_comeOutBy (len goal : Int32) (harm : Int64) (cm sx sg wn inn ft : Nat → Int32) (ab : Nat → Int64) (k : Nat) (hk : k ≤ 8) (a b : Nat → Int32) : Ev MX7_comeOutBy [.ref 0, .ref 3] [zO 6 [.ref 1, .ref 2, .int (nI k)], zI 8 a, zI 8 b, zO 0 [.ref 4, .ref 5, .ref 6, .ref 7, .ref 8, .ref 9, .ref 10, .int len, .int goal, .long harm], zI 12 cm, zI 12 sx, zI 13 sg, zI 13 wn, zL 13 ab, zI 13 inn, zI 8 ft] (Ri [zO 6 [.ref 1, .ref 2, .int (nI k)], zI 8 a, zI 8 b, zO 0 [.ref 4, .ref 5, .ref 6, .ref 7, .ref 8, .ref 9, .ref 10, .int len, .int goal, .long harm], zI 12 cm, zI 12 sx, zI 13 sg, zI 13 wn, zL 13 ab, zI 13 inn, zI 8 ft] (if okD ft a b k 0 = true then 1 else 0)) := by
  refine ev_of bX7_comeOutBy [some (.ref 0), some (.ref 3), none] (Nat.le_of_ble_eq_true rfl) rfl ?_
  refine go_iconst (0) dX7_comeOutBy_0 (by decide) ?_
  refine go_istore_n dX7_comeOutBy_1 (by decide) ?_
  suffices loop : ∀ (d i : Nat), i + d = k → okD ft a b k 0 = okD ft a b d i → Go X0 MX7_comeOutBy (Ri [zO 6 [.ref 1, .ref 2, .int (nI k)], zI 8 a, zI 8 b, zO 0 [.ref 4, .ref 5, .ref 6, .ref 7, .ref 8, .ref 9, .ref 10, .int len, .int goal, .long harm], zI 12 cm, zI 12 sx, zI 13 sg, zI 13 wn, zL 13 ab, zI 13 inn, zI 8 ft] (if okD ft a b k 0 = true then 1 else 0)) 11 0 0 2 [some (.ref 0), some (.ref 3), some (.int (nI i))] [] [zO 6 [.ref 1, .ref 2, .int (nI k)], zI 8 a, zI 8 b, zO 0 [.ref 4, .ref 5, .ref 6, .ref 7, .ref 8, .ref 9, .ref 10, .int len, .int goal, .long harm], zI 12 cm, zI 12 sx, zI 13 sg, zI 13 wn, zL 13 ab, zI 13 inn, zI 8 ft] from loop k 0 (by omega) rfl
  intro d
  induction d with
  | zero =>
    intro i hi hr
    refine go_iload_n dX7_comeOutBy_2 rfl ?_
    refine go_aload_n dX7_comeOutBy_3 rfl ?_
    refine go_getf fX7_18 dX7_comeOutBy_4 rfl rfl ?_
    refine go_icmp_ge 37 dX7_comeOutBy_7 (by decide) (fun _ => ?_) (fun c_7 => absurd (nI_le (by omega) (by omega)) c_7)
    refine go_iconst (1) dX7_comeOutBy_37 (by decide) ?_
    refine go_ireturn dX7_comeOutBy_38 rfl (by decide) (Nat.le_of_ble_eq_true rfl) (Nat.le_of_ble_eq_true rfl) ?_
    exact ⟨by rw [hr]; rfl, rfl⟩
  | succ d ih =>
    intro i hi hr
    rw [okD] at hr
    refine go_iload_n dX7_comeOutBy_2 rfl ?_
    refine go_aload_n dX7_comeOutBy_3 rfl ?_
    refine go_getf fX7_18 dX7_comeOutBy_4 rfl rfl ?_
    refine go_icmp_ge 37 dX7_comeOutBy_7 (by decide) (fun c_7 => absurd c_7 (nI_ge (by omega) (by omega))) (fun _ => ?_)
    refine go_aload_n dX7_comeOutBy_10 rfl ?_
    refine go_aload_n dX7_comeOutBy_11 rfl ?_
    refine go_getf fX7_9 dX7_comeOutBy_12 rfl rfl ?_
    refine go_iload_n dX7_comeOutBy_15 rfl ?_
    refine go_iald dX7_comeOutBy_16 rfl (vp_in_nI (by omega) (by decide)) ?_
    rw [nI_clamp (show i < 2 ^ 31 by omega)]
    refine go_callVi (z := MX0_fateOf) [3, 4, 5, 6, 7, 8, 9, 10] dX7_comeOutBy_17 lX7_22 sX0_fateOf (ev_X0_fateOf _ _ _ _ _ _ _ _ _ _ _) rfl rfl rfl rfl rfl ⟨_, _, rfl⟩ rfl rfl ?_
    skip
    rw [show (if (a i) < 0 ∨ 8 ≤ (a i) then (-1 : Int32) else ft (a i).toNatClampNeg) = fateI ft (a i) from rfl]
    refine go_aload_n dX7_comeOutBy_20 rfl ?_
    refine go_getf fX7_15 dX7_comeOutBy_21 rfl rfl ?_
    refine go_iload_n dX7_comeOutBy_24 rfl ?_
    refine go_iald dX7_comeOutBy_25 rfl (vp_in_nI (by omega) (by decide)) ?_
    rw [nI_clamp (show i < 2 ^ 31 by omega)]
    refine go_icmp_eq 31 dX7_comeOutBy_26 (by decide) (fun c_26 => ?_) (fun c_26 => ?_)
    · refine go_iincN (1) dX7_comeOutBy_31 rfl (by decide) (by decide) ?_
      refine go_goto 2 dX7_comeOutBy_34 (by decide) ?_
      rw [nI_1]
      exact ih (i + 1) (by omega) (by rw [hr, if_pos c_26])
    · refine go_iconst (0) dX7_comeOutBy_29 (by decide) ?_
      refine go_ireturn dX7_comeOutBy_30 rfl (by decide) (Nat.le_of_ble_eq_true rfl) (Nat.le_of_ble_eq_true rfl) ?_
      exact ⟨by simp [hr, c_26], rfl⟩
