theorem aW_step (g : Nat) (pf : Nat → Int32) (nm : Nat → Nat) (s0 br : Int32) (gl : Nat) (hg : gl ≤ 8) (i u f : Nat) (hf : f ≤ kW g pf nm s0 (nI gl) br i) (ha : aW g pf nm s0 (nI gl) br i = u * 16 ^ (kW g pf nm s0 (nI gl) br i - f)) : (wC g pf nm s0 (nI gl) br i = 3 → f + 1 ≤ kW g pf nm s0 (nI gl) br (i + 1) ∧ aW g pf nm s0 (nI gl) br (i + 1) = u * (wX g pf nm s0 (nI gl) br i).toNatClampNeg * 16 ^ (kW g pf nm s0 (nI gl) br (i + 1) - (f + 1))) ∧ (¬ wC g pf nm s0 (nI gl) br i = 3 → f ≤ kW g pf nm s0 (nI gl) br (i + 1) ∧ aW g pf nm s0 (nI gl) br (i + 1) = u * 16 ^ (kW g pf nm s0 (nI gl) br (i + 1) - f)) := by
  rw [kW_s g pf nm s0 br gl hg i, aW]
  constructor
  · intro h
    have hw : ¬ winI (wC g pf nm s0 (nI gl) br i) = 0 := by rw [h]; decide
    rw [if_neg hw, if_neg hw, ha]
    refine ⟨by omega, ?_⟩
    rw [show kW g pf nm s0 (nI gl) br i + 1 - (f + 1) = kW g pf nm s0 (nI gl) br i - f by omega]
    rw [Nat.mul_right_comm]
  · intro h
    have e : wX g pf nm s0 (nI gl) br i = 16 := six_n h
    by_cases hw : winI (wC g pf nm s0 (nI gl) br i) = 0
    · rw [if_pos hw, if_pos hw]
      exact ⟨hf, ha⟩
    · rw [if_neg hw, if_neg hw, ha, e]
      refine ⟨by omega, ?_⟩
      rw [show kW g pf nm s0 (nI gl) br i + 1 - f = kW g pf nm s0 (nI gl) br i - f + 1 by omega, Nat.pow_succ, Nat.mul_assoc]
      rfl
theorem aW_end {a u k f : Nat} (hk : k ≤ 8) (hf : f ≤ k) (h : a = u * 16 ^ (k - f)) : u * 2 ^ (4 * (8 - f)) = a * 2 ^ (32 - 4 * k) := by
  rw [h, p16, Nat.mul_assoc, ← Nat.pow_add]
  congr 2
  omega
theorem nmd_after {nm : Nat → Nat} {i f : Nat} (h2 : nm i = f) : ∀ d, nmd nm (i + 1 + d) f = true
  | 0 => by show (nmd nm i f || nm i == f) = true; simp [h2]
  | d + 1 => by show (nmd nm (i + 1 + d) f || nm (i + 1 + d) == f) = true; simp [nmd_after h2 d]
theorem wF_first {g : Nat} {pf : Nat → Int32} {nm : Nat → Nat} {s0 goal br : Int32} {i f : Nat} (h1 : nmd nm i f = false) (h2 : nm i = f) : ∀ d, wF g pf nm s0 goal br (i + 1 + d) f = wC g pf nm s0 goal br i
  | 0 => if_pos ⟨h1, h2⟩
  | d + 1 => by
    have := nmd_after h2 d
    show (if nmd nm (i + 1 + d) f = false ∧ nm (i + 1 + d) = f then _ else wF g pf nm s0 goal br (i + 1 + d) f) = _
    rw [if_neg (by rw [this]; simp)]
    exact wF_first h1 h2 d
theorem fw_le (sx : Nat → Int32) (h : ∀ i, sx i ≤ 16) : ∀ i, (i = 0 ∧ fwI sx i = (-1, 17)) ∨ ∃ b, b < i ∧ (fwI sx i).1 = nI b ∧ (fwI sx i).2 = sx b
  | 0 => Or.inl ⟨rfl, rfl⟩
  | i + 1 => by
    right
    rw [fwI]
    rcases fw_le sx h i with ⟨h1, h2⟩ | ⟨b, h1, h2, h3⟩
    · rw [h2, if_neg (fun q => absurd (Int32.le_trans q (h i)) (by decide))]
      exact ⟨i, by omega, rfl, rfl⟩
    · split
      · exact ⟨b, by omega, h2, h3⟩
      · exact ⟨i, by omega, rfl, rfl⟩
theorem wX_le (g : Nat) (pf : Nat → Int32) (nm : Nat → Nat) (s0 goal br : Int32) (i : Nat) : wX g pf nm s0 goal br i ≤ 16 := by
  obtain ⟨x, h, e⟩ := wX_in g pf nm s0 goal br i
  rw [e]
  exact nI_le (b := 16) h (by decide)
set_option maxRecDepth 100000 in
theorem ev_X12_aliveOf (U : TU) (lt : Int32) (B : TB2) (F A : TX) (se : AF) (R : TR) (O : TO) (V : TX) (al : AF) (dr : Int32) (hA : AOK A) (hR : RI F A se R) (gl : Nat) (h8 : gl ≤ 8) (he : se 1 = nI gl) (t : Nat) (ht : t ≤ A.1) : Ev MX12_aliveOf [.ref 0, .int (nI t)] (mwd U lt B F A se R O V al dr) (Rj (mwd U lt B F A se R O V al dr) (lN (aW F.1 F.2 (nmR A.2) (se 0) (nI gl) (se 2) (t) * 2 ^ (32 - 4 * kW F.1 F.2 (nmR A.2) (se 0) (nI gl) (se 2) (t))))) := by
  refine ev_of bX12_aliveOf [some (.ref 0), some (.int (nI t)), none, none, none, none] (Nat.le_of_ble_eq_true rfl) rfl ?_
  have hA1 := hA.1
  have hR1 := hR.1
  rw [he] at hR1
  refine go_lconst 1 dX12_aliveOf_0 (by decide) ?_
  refine go_lstore_n dX12_aliveOf_1 (by decide) ?_
  refine go_iconst (0) dX12_aliveOf_2 (by decide) ?_
  refine go_istore dX12_aliveOf_3 (by decide) ?_
  refine go_iconst (0) dX12_aliveOf_5 (by decide) ?_
  refine go_istore dX12_aliveOf_6 (by decide) ?_
  suffices loop : ∀ (d i u f : Nat), i + d = t → f ≤ kW F.1 F.2 (nmR A.2) (se 0) (nI gl) (se 2) i → aW F.1 F.2 (nmR A.2) (se 0) (nI gl) (se 2) i = u * 16 ^ (kW F.1 F.2 (nmR A.2) (se 0) (nI gl) (se 2) i - f) → Go X0 MX12_aliveOf (Rj (mwd U lt B F A se R O V al dr) (lN (aW F.1 F.2 (nmR A.2) (se 0) (nI gl) (se 2) (t) * 2 ^ (32 - 4 * kW F.1 F.2 (nmR A.2) (se 0) (nI gl) (se 2) (t))))) 21 0 0 8 [some (.ref 0), some (.int (nI t)), some (.long (lN u)), none, some (.int (nI f)), some (.int (nI i))] [] (mwd U lt B F A se R O V al dr) from loop t 0 1 0 (by omega) (Nat.zero_le _) rfl
  intro d
  induction d with
  | zero =>
    intro i u f hi h1 h2
    obtain rfl : i = t := by omega
    have hk := (kW_ok F.1 F.2 (nmR A.2) (se 0) (se 2) gl h8 i).2
    refine go_iload dX12_aliveOf_8 rfl ?_
    refine go_iload_n dX12_aliveOf_10 rfl ?_
    refine go_icmp_ge 67 dX12_aliveOf_11 (by decide) (fun _ => ?_) (fun c_11 => absurd (Int32.le_refl _) c_11)
    refine go_lload_n dX12_aliveOf_67 rfl ?_
    refine go_iconst (4) dX12_aliveOf_68 (by decide) ?_
    refine go_bipush (8) dX12_aliveOf_69 (by decide) ?_
    refine go_iload dX12_aliveOf_71 rfl ?_
    refine go_isub dX12_aliveOf_73 ?_
    refine go_imul dX12_aliveOf_74 ?_
    rw [show (4 : Int32) * (8 - nI f) = nI (4 * (8 - f)) by rw [show (8 : Int32) = nI 8 from rfl, nI_sub (by omega), mul4]]
    refine go_lshl dX12_aliveOf_75 ?_
    rw [wb_shl _ (by omega), aW_end (Nat.le_trans hk h8) h1 h2]
    refine go_lreturn dX12_aliveOf_76 rfl (Nat.le_of_ble_eq_true rfl) (Nat.le_of_ble_eq_true rfl) ?_
    exact ⟨rfl, rfl⟩
  | succ d ih =>
    intro i u f hi h1 h2
    obtain ⟨r1, r2⟩ := hR1 i (by omega)
    obtain ⟨s1, s2⟩ := aW_step F.1 F.2 (nmR A.2) (se 0) (se 2) gl h8 i u f h1 h2
    obtain ⟨x, hx, ex⟩ := wX_in F.1 F.2 (nmR A.2) (se 0) (nI gl) (se 2) i
    refine go_iload dX12_aliveOf_8 rfl ?_
    refine go_iload_n dX12_aliveOf_10 rfl ?_
    refine go_icmp_ge 67 dX12_aliveOf_11 (by decide) (fun c_11 => absurd c_11 (nI_ge (by omega) (by omega))) (fun _ => ?_)
    refine go_lload_n dX12_aliveOf_14 rfl ?_
    refine go_aload_n dX12_aliveOf_15 rfl ?_
    refine go_getf fX12_37 dX12_aliveOf_16 rfl rfl ?_
    refine go_iload dX12_aliveOf_19 rfl ?_
    refine go_iald dX12_aliveOf_21 rfl (vp_in_nI (by omega) (by decide)) ?_
    simp only [nI_clamp (show i < 2 ^ 31 by omega)]
    rw [r1]
    refine go_iconst (3) dX12_aliveOf_22 (by decide) ?_
    refine go_cut2L (J := 38) (fun v => v = if wC F.1 F.2 (nmR A.2) (se 0) (nI gl) (se 2) i = 3 then lN x else lN 1) (fun v_38 hv_38 => ?_) (fun kk_38 => ?_)
    case refine_2 =>
      refine go_icmp_ne 37 dX12_aliveOf_23 (by decide) (fun c_23 => ?_) (fun c_23 => ?_)
      · refine go_lconst 1 dX12_aliveOf_37 (by decide) ?_
        exact kk_38 _ (by first | rw [if_neg c_23]; rfl | rw [if_pos c_23, ex, nI_l (by omega)])
      · refine go_aload_n dX12_aliveOf_26 rfl ?_
        refine go_getf fX12_40 dX12_aliveOf_27 rfl rfl ?_
        refine go_iload dX12_aliveOf_30 rfl ?_
        refine go_iald dX12_aliveOf_32 rfl (vp_in_nI (by omega) (by decide)) ?_
        simp only [nI_clamp (show i < 2 ^ 31 by omega)]
        rw [r2]
        refine go_i2l dX12_aliveOf_33 ?_
        refine go_goto 38 dX12_aliveOf_34 (by decide) ?_
        exact kk_38 _ (by first | rw [if_neg c_23]; rfl | rw [if_pos c_23, ex, nI_l (by omega)])
    refine go_lmul dX12_aliveOf_38 ?_
    refine go_lstore_n dX12_aliveOf_39 (by decide) ?_
    refine go_iload dX12_aliveOf_40 rfl ?_
    refine go_aload_n dX12_aliveOf_42 rfl ?_
    refine go_getf fX12_37 dX12_aliveOf_43 rfl rfl ?_
    refine go_iload dX12_aliveOf_46 rfl ?_
    refine go_iald dX12_aliveOf_48 rfl (vp_in_nI (by omega) (by decide)) ?_
    simp only [nI_clamp (show i < 2 ^ 31 by omega)]
    rw [r1]
    refine go_iconst (3) dX12_aliveOf_49 (by decide) ?_
    refine go_cut2 (J := 58) (fun v => v = if wC F.1 F.2 (nmR A.2) (se 0) (nI gl) (se 2) i = 3 then 1 else 0) (fun v_58 hv_58 => ?_) (fun kk_58 => ?_)
    case refine_2 =>
      refine go_icmp_ne 57 dX12_aliveOf_50 (by decide) (fun c_50 => ?_) (fun c_50 => ?_)
      · refine go_iconst (0) dX12_aliveOf_57 (by decide) ?_
        exact kk_58 _ (by first | rw [if_neg c_50] | rw [if_pos c_50])
      · refine go_iconst (1) dX12_aliveOf_53 (by decide) ?_
        refine go_goto 58 dX12_aliveOf_54 (by decide) ?_
        exact kk_58 _ (by first | rw [if_neg c_50] | rw [if_pos c_50])
    refine go_iadd dX12_aliveOf_58 ?_
    refine go_istore dX12_aliveOf_59 (by decide) ?_
    refine go_iincN (1) dX12_aliveOf_61 rfl (by decide) (by decide) ?_
    refine go_goto 8 dX12_aliveOf_64 (by decide) ?_
    rw [nI_1, hv_38, hv_58]
    by_cases q : wC F.1 F.2 (nmR A.2) (se 0) (nI gl) (se 2) i = 3
    · rw [if_pos q, if_pos q, lN_mul, nI_1]
      obtain ⟨a1, a2⟩ := s1 q
      rw [ex, nI_clamp (by omega)] at a2
      exact ih (i + 1) (u * x) (f + 1) (by omega) a1 a2
    · rw [if_neg q, if_neg q, lN_mul, Nat.mul_one, Int32.add_zero]
      exact ih (i + 1) u f (by omega) (s2 q).1 (s2 q).2
set_option maxRecDepth 100000 in
theorem ev_X12_livesNow (U : TU) (lt : Int32) (B : TB2) (F A : TX) (se : AF) (R : TR) (O : TO) (V : TX) (al : AF) (dr : Int32) (hA : AOK A) (hR : RI F A se R) (gl : Nat) (h8 : gl ≤ 8) (he : se 1 = nI gl) : Ev MX12_livesNow [.ref 0] (mwd U lt B F A se R O V al dr) (Rj (mwd U lt B F A se R O V al dr) (lN (lvW F.1 F.2 (nmR A.2) (se 0) gl (se 2) A.1 * 2 ^ (32 - 4 * gl)))) := by
  refine ev_of bX12_livesNow [some (.ref 0)] (Nat.le_of_ble_eq_true rfl) rfl ?_
  have hA1 := hA.1
  have hw := (hR.2 A.1 (Nat.le_refl _)).2
  rw [he, (kW_ok F.1 F.2 (nmR A.2) (se 0) (se 2) gl h8 A.1).1] at hw
  have hk := (kW_ok F.1 F.2 (nmR A.2) (se 0) (se 2) gl h8 A.1).2
  refine go_aload_n dX12_livesNow_0 rfl ?_
  refine go_getf fX12_46 dX12_livesNow_1 rfl rfl ?_
  refine go_aload_n dX12_livesNow_4 rfl ?_
  refine go_getf fX12_118 dX12_livesNow_5 rfl rfl ?_
  refine go_iald dX12_livesNow_8 rfl (vp_in_nI (by omega) (by decide)) ?_
  simp only [nI_clamp (show A.1 < 2 ^ 31 by omega)]
  rw [hw]
  refine go_aload_n dX12_livesNow_9 rfl ?_
  refine go_getf fX12_34 dX12_livesNow_10 rfl rfl ?_
  refine go_iconst (1) dX12_livesNow_13 (by decide) ?_
  refine go_iald dX12_livesNow_14 rfl (vp_in_nI (n := 1) (by decide) (by decide)) ?_
  rw [show se (1 : Int32).toNatClampNeg = nI gl from he]
  refine go_icmp_lt 29 dX12_livesNow_15 (by decide) (fun c_15 => ?_) (fun c_15 => ?_)
  · refine go_lconst 0 dX12_livesNow_29 (by decide) ?_
    refine go_lreturn dX12_livesNow_30 rfl (Nat.le_of_ble_eq_true rfl) (Nat.le_of_ble_eq_true rfl) ?_
    first
    | exact ⟨by unfold lvW; rw [if_pos ((nI_ltI (by omega) (by omega)).mp c_15), Nat.zero_mul]; rfl, rfl⟩
    | exact ⟨by
        have q : ¬ kW F.1 F.2 (nmR A.2) (se 0) (nI gl) (se 2) A.1 < gl := fun q => c_15 (nI_lt q (by omega))
        unfold lvW
        rw [if_neg q, show kW F.1 F.2 (nmR A.2) (se 0) (nI gl) (se 2) A.1 = gl by omega], rfl⟩
  · refine go_aload_n dX12_livesNow_18 rfl ?_
    refine go_aload_n dX12_livesNow_19 rfl ?_
    refine go_getf fX12_118 dX12_livesNow_20 rfl rfl ?_
    refine go_callVsj (z := MX12_aliveOf) dX12_livesNow_23 lX12_177 sX12_aliveOf (ev_X12_aliveOf U lt B F A se R O V al dr hA hR gl h8 he A.1 (Nat.le_refl _)) rfl rfl rfl ⟨_, _, rfl⟩ rfl rfl ?_
    refine go_goto 30 dX12_livesNow_26 (by decide) ?_
    refine go_lreturn dX12_livesNow_30 rfl (Nat.le_of_ble_eq_true rfl) (Nat.le_of_ble_eq_true rfl) ?_
    first
    | exact ⟨by unfold lvW; rw [if_pos ((nI_ltI (by omega) (by omega)).mp c_15), Nat.zero_mul]; rfl, rfl⟩
    | exact ⟨by
        have q : ¬ kW F.1 F.2 (nmR A.2) (se 0) (nI gl) (se 2) A.1 < gl := fun q => c_15 (nI_lt q (by omega))
        unfold lvW
        rw [if_neg q, show kW F.1 F.2 (nmR A.2) (se 0) (nI gl) (se 2) A.1 = gl by omega], rfl⟩
set_option maxRecDepth 100000 in
theorem ev_X12_isHarmed (U : TU) (lt : Int32) (B : TB2) (F A : TX) (se : AF) (R : TR) (O : TO) (V : TX) (al : AF) (dr : Int32) (hA : AOK A) (hR : RI F A se R) (t : Nat) (ht : t < A.1) : Ev MX12_isHarmed [.ref 0, .int (nI t)] (mwd U lt B F A se R O V al dr) (Ri (mwd U lt B F A se R O V al dr) (if wC F.1 F.2 (nmR A.2) (se 0) (se 1) (se 2) t = 3 ∧ F.2 (5 * nmR A.2 t + 3) = 0 then (1 : Int32) else 0)) := by
  refine ev_of bX12_isHarmed [some (.ref 0), some (.int (nI t))] (Nat.le_of_ble_eq_true rfl) rfl ?_
  have hA1 := hA.1
  obtain ⟨hn, hn8⟩ := hA.2 t ht
  obtain ⟨r1, r2⟩ := hR.1 t ht
  refine go_aload_n dX12_isHarmed_0 rfl ?_
  refine go_getf fX12_37 dX12_isHarmed_1 rfl rfl ?_
  refine go_iload_n dX12_isHarmed_4 rfl ?_
  refine go_iald dX12_isHarmed_5 rfl (vp_in_nI (by omega) (by decide)) ?_
  simp only [nI_clamp (show t < 2 ^ 31 by omega)]
  rw [r1]
  refine go_iconst (3) dX12_isHarmed_6 (by decide) ?_
  refine go_icmp_ne 32 dX12_isHarmed_7 (by decide) (fun c_7 => ?_) (fun c_7 => ?_)
  · refine go_iconst (0) dX12_isHarmed_32 (by decide) ?_
    refine go_ireturn dX12_isHarmed_33 rfl (by decide) (Nat.le_of_ble_eq_true rfl) (Nat.le_of_ble_eq_true rfl) ?_
    first
    | exact ⟨by rw [if_neg (fun q => c_7 q.1)], rfl⟩
    | exact ⟨by rw [if_neg (fun q => c_25 q.2)], rfl⟩
    | exact ⟨by rw [if_pos ⟨c_7, c_25⟩], rfl⟩
  · refine go_aload_n dX12_isHarmed_10 rfl ?_
    refine go_getf fX12_28 dX12_isHarmed_11 rfl rfl ?_
    refine go_iconst (5) dX12_isHarmed_14 (by decide) ?_
    refine go_aload_n dX12_isHarmed_15 rfl ?_
    refine go_getf fX12_31 dX12_isHarmed_16 rfl rfl ?_
    refine go_iload_n dX12_isHarmed_19 rfl ?_
    refine go_iald dX12_isHarmed_20 rfl (vp_in_nI (by omega) (by decide)) ?_
    simp only [nI_clamp (show t < 2 ^ 31 by omega)]
    rw [hn]
    refine go_imul dX12_isHarmed_21 ?_
    refine go_iconst (3) dX12_isHarmed_22 (by decide) ?_
    refine go_iadd dX12_isHarmed_23 ?_
    rw [show (5 : Int32) * nI (nmR A.2 t) + 3 = nI (5 * nmR A.2 t + 3) from five _ 3]
    refine go_iald dX12_isHarmed_24 rfl (vp_in_nI (by omega) (by decide)) ?_
    simp only [nI_clamp (show 5 * nmR A.2 t + 3 < 2 ^ 31 by omega)]
    refine go_if_ne 32 dX12_isHarmed_25 (by decide) (fun c_25 => ?_) (fun c_25 => ?_)
    · refine go_iconst (0) dX12_isHarmed_32 (by decide) ?_
      refine go_ireturn dX12_isHarmed_33 rfl (by decide) (Nat.le_of_ble_eq_true rfl) (Nat.le_of_ble_eq_true rfl) ?_
      first
      | exact ⟨by rw [if_neg (fun q => c_7 q.1)], rfl⟩
      | exact ⟨by rw [if_neg (fun q => c_25 q.2)], rfl⟩
      | exact ⟨by rw [if_pos ⟨c_7, c_25⟩], rfl⟩
    · refine go_iconst (1) dX12_isHarmed_28 (by decide) ?_
      refine go_goto 33 dX12_isHarmed_29 (by decide) ?_
      refine go_ireturn dX12_isHarmed_33 rfl (by decide) (Nat.le_of_ble_eq_true rfl) (Nat.le_of_ble_eq_true rfl) ?_
      first
      | exact ⟨by rw [if_neg (fun q => c_7 q.1)], rfl⟩
      | exact ⟨by rw [if_neg (fun q => c_25 q.2)], rfl⟩
      | exact ⟨by rw [if_pos ⟨c_7, c_25⟩], rfl⟩
set_option maxRecDepth 100000 in
theorem ev_X12_harmNow (U : TU) (lt : Int32) (B : TB2) (F A : TX) (se : AF) (R : TR) (O : TO) (V : TX) (al : AF) (dr : Int32) (hA : AOK A) (hR : RI F A se R) (gl : Nat) (h8 : gl ≤ 8) (he : se 1 = nI gl) : Ev MX12_harmNow [.ref 0] (mwd U lt B F A se R O V al dr) (Rj (mwd U lt B F A se R O V al dr) (lN (hW F.1 F.2 (nmR A.2) (se 0) (nI gl) (se 2) A.1))) := by
  refine ev_of bX12_harmNow [some (.ref 0), none, none, none] (Nat.le_of_ble_eq_true rfl) rfl ?_
  have hA1 := hA.1
  refine go_lconst 0 dX12_harmNow_0 (by decide) ?_
  refine go_lstore_n dX12_harmNow_1 (by decide) ?_
  refine go_iconst (0) dX12_harmNow_2 (by decide) ?_
  refine go_istore_n dX12_harmNow_3 (by decide) ?_
  suffices loop : ∀ (d i : Nat), i + d = A.1 → Go X0 MX12_harmNow (Rj (mwd U lt B F A se R O V al dr) (lN (hW F.1 F.2 (nmR A.2) (se 0) (nI gl) (se 2) A.1))) 21 0 0 4 [some (.ref 0), some (.long (lN (hW F.1 F.2 (nmR A.2) (se 0) (nI gl) (se 2) i))), none, some (.int (nI i))] [] (mwd U lt B F A se R O V al dr) from loop A.1 0 (by omega)
  intro d
  induction d with
  | zero =>
    intro i hi
    rw [show i = A.1 by omega]
    refine go_iload_n dX12_harmNow_4 rfl ?_
    refine go_aload_n dX12_harmNow_5 rfl ?_
    refine go_getf fX12_118 dX12_harmNow_6 rfl rfl ?_
    refine go_icmp_ge 40 dX12_harmNow_9 (by decide) (fun _ => ?_) (fun c_9 => absurd (Int32.le_refl _) c_9)
    refine go_lload_n dX12_harmNow_40 rfl ?_
    refine go_lreturn dX12_harmNow_41 rfl (Nat.le_of_ble_eq_true rfl) (Nat.le_of_ble_eq_true rfl) ?_
    exact ⟨rfl, rfl⟩
  | succ d ih =>
    intro i hi
    refine go_iload_n dX12_harmNow_4 rfl ?_
    refine go_aload_n dX12_harmNow_5 rfl ?_
    refine go_getf fX12_118 dX12_harmNow_6 rfl rfl ?_
    refine go_icmp_ge 40 dX12_harmNow_9 (by decide) (fun c_9 => absurd c_9 (nI_ge (by omega) (by omega))) (fun _ => ?_)
    refine go_lload_n dX12_harmNow_12 rfl ?_
    refine go_aload_n dX12_harmNow_13 rfl ?_
    refine go_iload_n dX12_harmNow_14 rfl ?_
    refine go_callVsi (z := MX12_isHarmed) dX12_harmNow_15 lX12_192 sX12_isHarmed (ev_X12_isHarmed U lt B F A se R O V al dr hA hR i (by omega)) rfl rfl rfl ⟨_, _, rfl⟩ rfl rfl ?_
    rw [he]
    refine go_cut1L (J := 32) (fun v => v = if wC F.1 F.2 (nmR A.2) (se 0) (nI gl) (se 2) i = 3 ∧ F.2 (5 * nmR A.2 i + 3) = 0 then (lN (aW F.1 F.2 (nmR A.2) (se 0) (nI gl) (se 2) (i + 1) * 2 ^ (32 - 4 * kW F.1 F.2 (nmR A.2) (se 0) (nI gl) (se 2) (i + 1)))) else 0) (fun v_32 hv_32 => ?_) (fun kk_32 => ?_)
    case refine_2 =>
      refine go_if_eq 31 dX12_harmNow_18 (by decide) (fun c_18 => ?_) (fun c_18 => ?_)
      · refine go_lconst 0 dX12_harmNow_31 (by decide) ?_
        exact kk_32 _ (by first | rw [if_neg (fun q => absurd c_18 (by rw [if_pos q]; decide))] | rw [if_pos (Decidable.of_not_not fun q => c_18 (if_neg q))])
      · refine go_aload_n dX12_harmNow_21 rfl ?_
        refine go_iload_n dX12_harmNow_22 rfl ?_
        refine go_iconst (1) dX12_harmNow_23 (by decide) ?_
        refine go_iadd dX12_harmNow_24 ?_
        rw [nI_1]
        refine go_callVsj (z := MX12_aliveOf) dX12_harmNow_25 lX12_177 sX12_aliveOf (ev_X12_aliveOf U lt B F A se R O V al dr hA hR gl h8 he (i + 1) (by omega)) rfl rfl rfl ⟨_, _, rfl⟩ rfl rfl ?_
        refine go_goto 32 dX12_harmNow_28 (by decide) ?_
        exact kk_32 _ (by first | rw [if_neg (fun q => absurd c_18 (by rw [if_pos q]; decide))] | rw [if_pos (Decidable.of_not_not fun q => c_18 (if_neg q))])
    refine go_ladd dX12_harmNow_32 ?_
    refine go_lstore_n dX12_harmNow_33 (by decide) ?_
    refine go_iincN (1) dX12_harmNow_34 rfl (by decide) (by decide) ?_
    refine go_goto 4 dX12_harmNow_37 (by decide) ?_
    rw [nI_1, hv_32]
    have e : lN (hW F.1 F.2 (nmR A.2) (se 0) (nI gl) (se 2) i) + (if wC F.1 F.2 (nmR A.2) (se 0) (nI gl) (se 2) i = 3 ∧ F.2 (5 * nmR A.2 i + 3) = 0 then (lN (aW F.1 F.2 (nmR A.2) (se 0) (nI gl) (se 2) (i + 1) * 2 ^ (32 - 4 * kW F.1 F.2 (nmR A.2) (se 0) (nI gl) (se 2) (i + 1)))) else 0) = lN (hW F.1 F.2 (nmR A.2) (se 0) (nI gl) (se 2) (i + 1)) := by
      rw [hW]
      have hk := (kW_ok F.1 F.2 (nmR A.2) (se 0) (se 2) gl h8 (i + 1)).2
      by_cases q : wC F.1 F.2 (nmR A.2) (se 0) (nI gl) (se 2) i = 3 ∧ F.2 (5 * nmR A.2 i + 3) = 0
      · rw [if_pos q, if_pos q, lN_add, show 32 - 4 * kW F.1 F.2 (nmR A.2) (se 0) (nI gl) (se 2) (i + 1) = 4 * (8 - kW F.1 F.2 (nmR A.2) (se 0) (nI gl) (se 2) (i + 1)) by omega]
      · rw [if_neg q, if_neg q, Int64.add_zero]
    rw [e]
    exact ih (i + 1) (by omega)
set_option maxRecDepth 100000 in
theorem ev_X12_worstNow (U : TU) (lt : Int32) (B : TB2) (F A : TX) (se : AF) (R : TR) (O : TO) (V : TX) (al : AF) (dr : Int32) (hA : AOK A) (hR : RI F A se R) : Ev MX12_worstNow [.ref 0] (mwd U lt B F A se R O V al dr) (Ri (mwd U lt B F A se R O V al dr) (fwI (wX F.1 F.2 (nmR A.2) (se 0) (se 1) (se 2)) A.1).1) := by
  refine ev_of bX12_worstNow [some (.ref 0), none, none] (Nat.le_of_ble_eq_true rfl) rfl ?_
  have hA1 := hA.1
  have hle := wX_le F.1 F.2 (nmR A.2) (se 0) (se 1) (se 2)
  refine go_iconst (-1) dX12_worstNow_0 (by decide) ?_
  refine go_istore_n dX12_worstNow_1 (by decide) ?_
  refine go_iconst (0) dX12_worstNow_2 (by decide) ?_
  refine go_istore_n dX12_worstNow_3 (by decide) ?_
  suffices loop : ∀ (d i : Nat), i + d = A.1 → Go X0 MX12_worstNow (Ri (mwd U lt B F A se R O V al dr) (fwI (wX F.1 F.2 (nmR A.2) (se 0) (se 1) (se 2)) A.1).1) 21 0 0 4 [some (.ref 0), some (.int (fwI (wX F.1 F.2 (nmR A.2) (se 0) (se 1) (se 2)) i).1), some (.int (nI i))] [] (mwd U lt B F A se R O V al dr) from loop A.1 0 (by omega)
  intro d
  induction d with
  | zero =>
    intro i hi
    rw [show i = A.1 by omega]
    refine go_iload_n dX12_worstNow_4 rfl ?_
    refine go_aload_n dX12_worstNow_5 rfl ?_
    refine go_getf fX12_118 dX12_worstNow_6 rfl rfl ?_
    refine go_icmp_ge 44 dX12_worstNow_9 (by decide) (fun _ => ?_) (fun c_9 => absurd (Int32.le_refl _) c_9)
    refine go_iload_n dX12_worstNow_44 rfl ?_
    refine go_ireturn dX12_worstNow_45 rfl rfl (Nat.le_of_ble_eq_true rfl) (Nat.le_of_ble_eq_true rfl) ?_
    exact ⟨rfl, rfl⟩
  | succ d ih =>
    intro i hi
    rcases fw_le (wX F.1 F.2 (nmR A.2) (se 0) (se 1) (se 2)) hle i with ⟨rfl, h0⟩ | ⟨b, hb, h1, h2⟩
    · have e : fwI (wX F.1 F.2 (nmR A.2) (se 0) (se 1) (se 2)) (0 + 1) = (nI 0, (wX F.1 F.2 (nmR A.2) (se 0) (se 1) (se 2)) 0) := by
        rw [fwI, h0, if_neg (fun q => absurd (Int32.le_trans q (hle 0)) (by decide))]
      refine go_iload_n dX12_worstNow_4 rfl ?_
      refine go_aload_n dX12_worstNow_5 rfl ?_
      refine go_getf fX12_118 dX12_worstNow_6 rfl rfl ?_
      refine go_icmp_ge 44 dX12_worstNow_9 (by decide) (fun c_9 => absurd c_9 (nI_ge (by omega) (by omega))) (fun _ => ?_)
      refine go_iload_n dX12_worstNow_12 rfl ?_
      refine go_iconst (-1) dX12_worstNow_13 (by decide) ?_
      refine go_icmp_eq 32 dX12_worstNow_14 (by decide) (fun _ => ?_) (fun c_14 => absurd (rfl) c_14)
      refine go_iload_n dX12_worstNow_32 rfl ?_
      refine go_goto 37 dX12_worstNow_33 (by decide) ?_
      refine go_istore_n dX12_worstNow_37 (by decide) ?_
      refine go_iincN (1) dX12_worstNow_38 rfl (by decide) (by decide) ?_
      refine go_goto 4 dX12_worstNow_41 (by decide) ?_
      have := ih (0 + 1) (by omega)
      rw [e] at this
      exact this
    · rw [h1]
      have n1 : ¬ nI b = -1 := nI_ne1 (by omega)
      refine go_iload_n dX12_worstNow_4 rfl ?_
      refine go_aload_n dX12_worstNow_5 rfl ?_
      refine go_getf fX12_118 dX12_worstNow_6 rfl rfl ?_
      refine go_icmp_ge 44 dX12_worstNow_9 (by decide) (fun c_9 => absurd c_9 (nI_ge (by omega) (by omega))) (fun _ => ?_)
      refine go_iload_n dX12_worstNow_12 rfl ?_
      refine go_iconst (-1) dX12_worstNow_13 (by decide) ?_
      refine go_icmp_eq 32 dX12_worstNow_14 (by decide) (fun c_14 => absurd c_14 (n1)) (fun _ => ?_)
      refine go_aload_n dX12_worstNow_17 rfl ?_
      refine go_getf fX12_40 dX12_worstNow_18 rfl rfl ?_
      refine go_iload_n dX12_worstNow_21 rfl ?_
      refine go_iald dX12_worstNow_22 rfl (vp_in_nI (by omega) (by decide)) ?_
      simp only [nI_clamp (show i < 2 ^ 31 by omega)]
      rw [(hR.1 i (by omega)).2]
      refine go_aload_n dX12_worstNow_23 rfl ?_
      refine go_getf fX12_40 dX12_worstNow_24 rfl rfl ?_
      refine go_iload_n dX12_worstNow_27 rfl ?_
      refine go_iald dX12_worstNow_28 rfl (vp_in_nI (by omega) (by decide)) ?_
      simp only [nI_clamp (show b < 2 ^ 31 by omega)]
      rw [(hR.1 b (by omega)).2, ← h2]
      refine go_icmp_ge 36 dX12_worstNow_29 (by decide) (fun c_29 => ?_) (fun c_29 => ?_)
      · refine go_iload_n dX12_worstNow_36 rfl ?_
        refine go_istore_n dX12_worstNow_37 (by decide) ?_
        refine go_iincN (1) dX12_worstNow_38 rfl (by decide) (by decide) ?_
        refine go_goto 4 dX12_worstNow_41 (by decide) ?_
        rw [nI_1]
        have := ih (i + 1) (by omega)
        rw [fwI] at this
        first
        | (rw [if_pos c_29, h1] at this; exact this)
        | (rw [if_neg c_29] at this; exact this)
      · refine go_iload_n dX12_worstNow_32 rfl ?_
        refine go_goto 37 dX12_worstNow_33 (by decide) ?_
        refine go_istore_n dX12_worstNow_37 (by decide) ?_
        refine go_iincN (1) dX12_worstNow_38 rfl (by decide) (by decide) ?_
        refine go_goto 4 dX12_worstNow_41 (by decide) ?_
        rw [nI_1]
        have := ih (i + 1) (by omega)
        rw [fwI] at this
        first
        | (rw [if_pos c_29, h1] at this; exact this)
        | (rw [if_neg c_29] at this; exact this)
set_option maxRecDepth 100000 in
theorem ev_X12_fateOf (U : TU) (lt : Int32) (B : TB2) (F A : TX) (se : AF) (R : TR) (O : TO) (V : TX) (al : AF) (dr : Int32) (hA : AOK A) (hR : RI F A se R) (f : Nat) (hf : f < 8) : Ev MX12_fateOf [.ref 0, .int (nI f)] (mwd U lt B F A se R O V al dr) (Ri (mwd U lt B F A se R O V al dr) (wF F.1 F.2 (nmR A.2) (se 0) (se 1) (se 2) A.1 f)) := by
  refine ev_of bX12_fateOf [some (.ref 0), some (.int (nI f)), none] (Nat.le_of_ble_eq_true rfl) rfl ?_
  have hA1 := hA.1
  refine go_iconst (0) dX12_fateOf_0 (by decide) ?_
  refine go_istore_n dX12_fateOf_1 (by decide) ?_
  suffices loop : ∀ (d i : Nat), i + d = A.1 → nmd (nmR A.2) i f = false → Go X0 MX12_fateOf (Ri (mwd U lt B F A se R O V al dr) (wF F.1 F.2 (nmR A.2) (se 0) (se 1) (se 2) A.1 f)) 21 0 0 2 [some (.ref 0), some (.int (nI f)), some (.int (nI i))] [] (mwd U lt B F A se R O V al dr) from loop A.1 0 (by omega) rfl
  intro d
  induction d with
  | zero =>
    intro i hi hm
    rw [show i = A.1 by omega] at hm ⊢
    refine go_iload_n dX12_fateOf_2 rfl ?_
    refine go_aload_n dX12_fateOf_3 rfl ?_
    refine go_getf fX12_118 dX12_fateOf_4 rfl rfl ?_
    refine go_icmp_ge 33 dX12_fateOf_7 (by decide) (fun _ => ?_) (fun c_7 => absurd (Int32.le_refl _) c_7)
    refine go_iconst (-1) dX12_fateOf_33 (by decide) ?_
    refine go_ireturn dX12_fateOf_34 rfl rfl (Nat.le_of_ble_eq_true rfl) (Nat.le_of_ble_eq_true rfl) ?_
    exact ⟨by rw [(wF_ne F.1 F.2 (nmR A.2) (se 0) (se 1) (se 2) _ f).mpr hm], rfl⟩
  | succ d ih =>
    intro i hi hm
    obtain ⟨hn, hn8⟩ := hA.2 i (by omega)
    refine go_iload_n dX12_fateOf_2 rfl ?_
    refine go_aload_n dX12_fateOf_3 rfl ?_
    refine go_getf fX12_118 dX12_fateOf_4 rfl rfl ?_
    refine go_icmp_ge 33 dX12_fateOf_7 (by decide) (fun c_7 => absurd c_7 (nI_ge (by omega) (by omega))) (fun _ => ?_)
    refine go_aload_n dX12_fateOf_10 rfl ?_
    refine go_getf fX12_31 dX12_fateOf_11 rfl rfl ?_
    refine go_iload_n dX12_fateOf_14 rfl ?_
    refine go_iald dX12_fateOf_15 rfl (vp_in_nI (by omega) (by decide)) ?_
    simp only [nI_clamp (show i < 2 ^ 31 by omega)]
    rw [hn]
    refine go_iload_n dX12_fateOf_16 rfl ?_
    refine go_icmp_ne 27 dX12_fateOf_17 (by decide) (fun c_17 => ?_) (fun c_17 => ?_)
    · refine go_iincN (1) dX12_fateOf_27 rfl (by decide) (by decide) ?_
      refine go_goto 2 dX12_fateOf_30 (by decide) ?_
      rw [nI_1]
      exact ih (i + 1) (by omega) (by
        show (nmd (nmR A.2) i f || nmR A.2 i == f) = false
        rw [hm]
        have : nmR A.2 i ≠ f := fun e => c_17 (by rw [e])
        simp [this])
    · refine go_aload_n dX12_fateOf_20 rfl ?_
      refine go_getf fX12_37 dX12_fateOf_21 rfl rfl ?_
      refine go_iload_n dX12_fateOf_24 rfl ?_
      refine go_iald dX12_fateOf_25 rfl (vp_in_nI (by omega) (by decide)) ?_
      simp only [nI_clamp (show i < 2 ^ 31 by omega)]
      rw [(hR.1 i (by omega)).1]
      refine go_ireturn dX12_fateOf_26 rfl rfl (Nat.le_of_ble_eq_true rfl) (Nat.le_of_ble_eq_true rfl) ?_
      have e := (nI_eq (by omega) (by omega)).mp c_17
      have := wF_first (g := F.1) (pf := F.2) (s0 := se 0) (goal := se 1) (br := se 2) hm e d
      rw [show i + 1 + d = A.1 by omega] at this
      exact ⟨by rw [this], rfl⟩
set_option maxRecDepth 100000 in
theorem ev_X12_behindOf (U : TU) (lt : Int32) (B : TB2) (F A : TX) (se : AF) (R : TR) (O : TO) (V : TX) (al : AF) (dr : Int32) (hA : AOK A) (hR : RI F A se R) (t : Nat) (ht : t ≤ A.1) (y : Int32) : Ev MX12_behindOf [.ref 0, .int (nI t), .int y] (mwd U lt B F A se R O V al dr) (Ri (mwd U lt B F A se R O V al dr) (if y = 0 then (wst F.1 F.2 (nmR A.2) (se 0) (se 1) (se 2) t).1 else (wst F.1 F.2 (nmR A.2) (se 0) (se 1) (se 2) t).2)) := by
  refine ev_of bX12_behindOf [some (.ref 0), some (.int (nI t)), some (.int y)] (Nat.le_of_ble_eq_true rfl) rfl ?_
  have hA1 := hA.1
  obtain ⟨r1, r2⟩ := hR.2 t ht
  refine go_iload_n dX12_behindOf_0 rfl ?_
  refine go_if_ne 13 dX12_behindOf_1 (by decide) (fun c_1 => ?_) (fun c_1 => ?_)
  · refine go_aload_n dX12_behindOf_13 rfl ?_
    refine go_getf fX12_46 dX12_behindOf_14 rfl rfl ?_
    refine go_iload_n dX12_behindOf_17 rfl ?_
    refine go_iald dX12_behindOf_18 rfl (vp_in_nI (by omega) (by decide)) ?_
    refine go_ireturn dX12_behindOf_19 rfl rfl (Nat.le_of_ble_eq_true rfl) (Nat.le_of_ble_eq_true rfl) ?_
    first | exact ⟨by rw [if_pos c_1], rfl⟩ | (simp only [nI_clamp (show t < 2 ^ 31 by omega)]; exact ⟨by rw [if_neg c_1, r2], rfl⟩)
  · refine go_aload_n dX12_behindOf_4 rfl ?_
    refine go_getf fX12_43 dX12_behindOf_5 rfl rfl ?_
    refine go_iload_n dX12_behindOf_8 rfl ?_
    refine go_iald dX12_behindOf_9 rfl (vp_in_nI (by omega) (by decide)) ?_
    simp only [nI_clamp (show t < 2 ^ 31 by omega)]
    rw [r1]
    refine go_goto 19 dX12_behindOf_10 (by decide) ?_
    refine go_ireturn dX12_behindOf_19 rfl rfl (Nat.le_of_ble_eq_true rfl) (Nat.le_of_ble_eq_true rfl) ?_
    first | exact ⟨by rw [if_pos c_1], rfl⟩ | (simp only [nI_clamp (show t < 2 ^ 31 by omega)]; exact ⟨by rw [if_neg c_1, r2], rfl⟩)
set_option maxRecDepth 100000 in
theorem ev_X12_fights (U : TU) (lt : Int32) (B : TB2) (F A : TX) (se : AF) (R : TR) (O : TO) (V : TX) (al : AF) (dr : Int32) (hA : AOK A) (hR : RI F A se R) : Ev MX12_fights [.ref 0] (mwd U lt B F A se R O V al dr) (Ri (mwd U lt B F A se R O V al dr) (fgI (wC F.1 F.2 (nmR A.2) (se 0) (se 1) (se 2)) A.1)) := by
  refine ev_of bX12_fights [some (.ref 0), none, none] (Nat.le_of_ble_eq_true rfl) rfl ?_
  have hA1 := hA.1
  refine go_iconst (0) dX12_fights_0 (by decide) ?_
  refine go_istore_n dX12_fights_1 (by decide) ?_
  refine go_iconst (0) dX12_fights_2 (by decide) ?_
  refine go_istore_n dX12_fights_3 (by decide) ?_
  suffices loop : ∀ (d i : Nat), i + d = A.1 → Go X0 MX12_fights (Ri (mwd U lt B F A se R O V al dr) (fgI (wC F.1 F.2 (nmR A.2) (se 0) (se 1) (se 2)) A.1)) 21 0 0 4 [some (.ref 0), some (.int (fgI (wC F.1 F.2 (nmR A.2) (se 0) (se 1) (se 2)) i)), some (.int (nI i))] [] (mwd U lt B F A se R O V al dr) from loop A.1 0 (by omega)
  intro d
  induction d with
  | zero =>
    intro i hi
    rw [show i = A.1 by omega]
    refine go_iload_n dX12_fights_4 rfl ?_
    refine go_aload_n dX12_fights_5 rfl ?_
    refine go_getf fX12_118 dX12_fights_6 rfl rfl ?_
    refine go_icmp_ge 36 dX12_fights_9 (by decide) (fun _ => ?_) (fun c_9 => absurd (Int32.le_refl _) c_9)
    refine go_iload_n dX12_fights_36 rfl ?_
    refine go_ireturn dX12_fights_37 rfl rfl (Nat.le_of_ble_eq_true rfl) (Nat.le_of_ble_eq_true rfl) ?_
    exact ⟨rfl, rfl⟩
  | succ d ih =>
    intro i hi
    refine go_iload_n dX12_fights_4 rfl ?_
    refine go_aload_n dX12_fights_5 rfl ?_
    refine go_getf fX12_118 dX12_fights_6 rfl rfl ?_
    refine go_icmp_ge 36 dX12_fights_9 (by decide) (fun c_9 => absurd c_9 (nI_ge (by omega) (by omega))) (fun _ => ?_)
    refine go_iload_n dX12_fights_12 rfl ?_
    refine go_aload_n dX12_fights_13 rfl ?_
    refine go_getf fX12_37 dX12_fights_14 rfl rfl ?_
    refine go_iload_n dX12_fights_17 rfl ?_
    refine go_iald dX12_fights_18 rfl (vp_in_nI (by omega) (by decide)) ?_
    simp only [nI_clamp (show i < 2 ^ 31 by omega)]
    rw [(hR.1 i (by omega)).1]
    refine go_iconst (3) dX12_fights_19 (by decide) ?_
    refine go_cut2 (J := 28) (fun v => fgI (wC F.1 F.2 (nmR A.2) (se 0) (se 1) (se 2)) i + v = fgI (wC F.1 F.2 (nmR A.2) (se 0) (se 1) (se 2)) (i + 1)) (fun v_28 hv_28 => ?_) (fun kk_28 => ?_)
    case refine_2 =>
      refine go_icmp_ne 27 dX12_fights_20 (by decide) (fun c_20 => ?_) (fun c_20 => ?_)
      · refine go_iconst (0) dX12_fights_27 (by decide) ?_
        exact kk_28 _ (by rw [fgI]; first | rw [if_neg c_20, Int32.add_zero] | rw [if_pos c_20])
      · refine go_iconst (1) dX12_fights_23 (by decide) ?_
        refine go_goto 28 dX12_fights_24 (by decide) ?_
        exact kk_28 _ (by rw [fgI]; first | rw [if_neg c_20, Int32.add_zero] | rw [if_pos c_20])
    refine go_iadd dX12_fights_28 ?_
    refine go_istore_n dX12_fights_29 (by decide) ?_
    refine go_iincN (1) dX12_fights_30 rfl (by decide) (by decide) ?_
    refine go_goto 4 dX12_fights_33 (by decide) ?_
    rw [nI_1, hv_28]
    exact ih (i + 1) (by omega)
set_option maxRecDepth 100000 in
theorem ev_X12_named (U : TU) (lt : Int32) (B : TB2) (F A : TX) (se : AF) (R : TR) (O : TO) (V : TX) (al : AF) (dr : Int32) (hF : F.1 ≤ 8) (hA : AOK A) (hR : RI F A se R) : Ev MX12_named [.ref 0] (mwd U lt B F A se R O V al dr) (Ri (mwd U lt B F A se R O V al dr) (nvI (wF F.1 F.2 (nmR A.2) (se 0) (se 1) (se 2) A.1) F.1)) := by
  refine ev_of bX12_named [some (.ref 0), none, none] (Nat.le_of_ble_eq_true rfl) rfl ?_
  refine go_iconst (0) dX12_named_0 (by decide) ?_
  refine go_istore_n dX12_named_1 (by decide) ?_
  refine go_iconst (0) dX12_named_2 (by decide) ?_
  refine go_istore_n dX12_named_3 (by decide) ?_
  suffices loop : ∀ (d i : Nat), i + d = F.1 → Go X0 MX12_named (Ri (mwd U lt B F A se R O V al dr) (nvI (wF F.1 F.2 (nmR A.2) (se 0) (se 1) (se 2) A.1) F.1)) 21 0 0 4 [some (.ref 0), some (.int (nvI (wF F.1 F.2 (nmR A.2) (se 0) (se 1) (se 2) A.1) i)), some (.int (nI i))] [] (mwd U lt B F A se R O V al dr) from loop F.1 0 (by omega)
  intro d
  induction d with
  | zero =>
    intro i hi
    rw [show i = F.1 by omega]
    refine go_iload_n dX12_named_4 rfl ?_
    refine go_aload_n dX12_named_5 rfl ?_
    refine go_getf fX12_112 dX12_named_6 rfl rfl ?_
    refine go_icmp_ge 34 dX12_named_9 (by decide) (fun _ => ?_) (fun c_9 => absurd (Int32.le_refl _) c_9)
    refine go_iload_n dX12_named_34 rfl ?_
    refine go_ireturn dX12_named_35 rfl rfl (Nat.le_of_ble_eq_true rfl) (Nat.le_of_ble_eq_true rfl) ?_
    exact ⟨rfl, rfl⟩
  | succ d ih =>
    intro i hi
    refine go_iload_n dX12_named_4 rfl ?_
    refine go_aload_n dX12_named_5 rfl ?_
    refine go_getf fX12_112 dX12_named_6 rfl rfl ?_
    refine go_icmp_ge 34 dX12_named_9 (by decide) (fun c_9 => absurd c_9 (nI_ge (by omega) (by omega))) (fun _ => ?_)
    refine go_iload_n dX12_named_12 rfl ?_
    refine go_aload_n dX12_named_13 rfl ?_
    refine go_iload_n dX12_named_14 rfl ?_
    refine go_callVsi (z := MX12_fateOf) dX12_named_15 lX12_201 sX12_fateOf (ev_X12_fateOf U lt B F A se R O V al dr hA hR i (by omega)) rfl rfl rfl ⟨_, _, rfl⟩ rfl rfl ?_
    refine go_cut1 (J := 26) (fun v => nvI (wF F.1 F.2 (nmR A.2) (se 0) (se 1) (se 2) A.1) i + v = nvI (wF F.1 F.2 (nmR A.2) (se 0) (se 1) (se 2) A.1) (i + 1)) (fun v_26 hv_26 => ?_) (fun kk_26 => ?_)
    case refine_2 =>
      refine go_if_le 25 dX12_named_18 (by decide) (fun c_18 => ?_) (fun c_18 => ?_)
      · refine go_iconst (0) dX12_named_25 (by decide) ?_
        exact kk_26 _ (by rw [nvI]; first | rw [if_pos c_18, Int32.add_zero] | rw [if_neg c_18])
      · refine go_iconst (1) dX12_named_21 (by decide) ?_
        refine go_goto 26 dX12_named_22 (by decide) ?_
        exact kk_26 _ (by rw [nvI]; first | rw [if_pos c_18, Int32.add_zero] | rw [if_neg c_18])
    refine go_iadd dX12_named_26 ?_
    refine go_istore_n dX12_named_27 (by decide) ?_
    refine go_iincN (1) dX12_named_28 rfl (by decide) (by decide) ?_
    refine go_goto 4 dX12_named_31 (by decide) ?_
    rw [nI_1, hv_26]
    exact ih (i + 1) (by omega)
