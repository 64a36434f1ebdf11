theorem lNlt {a b : Nat} (ha : a < 2 ^ 62) (hb : b < 2 ^ 62) : lN a < lN b ↔ a < b := by
  rw [Int64.lt_iff_toInt_lt, pf_lI (by omega), pf_lI (by omega)]
  omega
theorem lNle {a b : Nat} (ha : a < 2 ^ 62) (hb : b < 2 ^ 62) : lN a ≤ lN b ↔ a ≤ b := by
  rw [Int64.le_iff_toInt_le, pf_lI (by omega), pf_lI (by omega)]
  omega
theorem sc_lt {x gl : Nat} (hg : gl ≤ 8) (hx : x ≤ 16 ^ gl) : x * 2 ^ (32 - 4 * gl) < 2 ^ 62 := by
  refine Nat.lt_of_le_of_lt (Nat.mul_le_mul_right _ hx) ?_
  rw [p16, ← Nat.pow_add]
  exact Nat.pow_lt_pow_right (by decide) (by omega)
theorem x_lt {x gl : Nat} (hg : gl ≤ 8) (hx : x ≤ 16 ^ gl) : x ≤ 2 ^ 32 := by
  refine Nat.le_trans hx ?_
  rw [p16]
  exact Nat.pow_le_pow_right (by decide) (by omega)
theorem cmp_sc {x p gl : Nat} (hg : gl ≤ 8) (hx : x ≤ 16 ^ gl) (hp : p ≤ 16 ^ gl) : lg_cmp (lN (x * 2 ^ (32 - 4 * gl))) (lN (p * 2 ^ (32 - 4 * gl))) ≤ 0 ↔ x ≤ p := by
  rw [lg_cmp_le, lNle (sc_lt hg hx) (sc_lt hg hp)]
  exact Nat.mul_le_mul_right_iff (Nat.two_pow_pos _)
theorem rule_nat {x c k : Nat} (hk : k ≤ 8) : x * 2 ^ (32 - 4 * k) < c * 2 ^ 28 ↔ x * 16 < c * 2 ^ (4 * k) := by
  have e1 : x * 2 ^ (32 - 4 * k) * 2 ^ (4 * k) = x * 16 * 2 ^ 28 := by
    rw [Nat.mul_assoc, ← Nat.pow_add, show 32 - 4 * k + 4 * k = 32 by omega, Nat.mul_assoc]
  have e2 : c * 2 ^ 28 * 2 ^ (4 * k) = c * 2 ^ (4 * k) * 2 ^ 28 := Nat.mul_right_comm _ _ _
  have h1 := Nat.mul_lt_mul_right (a := 2 ^ (4 * k)) (b := x * 2 ^ (32 - 4 * k)) (c := c * 2 ^ 28) (Nat.two_pow_pos _)
  have h2 := Nat.mul_lt_mul_right (a := 2 ^ 28) (b := x * 16) (c := c * 2 ^ (4 * k)) (by decide)
  rw [← h1, e1, e2, h2]
theorem rule_eq {x c k : Nat} (hk : k ≤ 8) (hx : x ≤ 16 ^ k) (hc : c ≤ 16) : lN (x * 2 ^ (32 - 4 * k)) < (nI c).toInt64 <<< ((28 : Int32).toInt64 &&& 63) ↔ lN x * 16 < (nI c).toInt64 * (1 : Int64) <<< ((4 * nI k).toInt64 &&& 63) := by
  have h4 : 2 ^ (4 * k) ≤ 2 ^ 32 := Nat.pow_le_pow_right (by decide) (by omega)
  have hx2 := x_lt hk hx
  rw [nI_l (show c < 2 ^ 31 by omega), show (28 : Int32) = nI 28 from rfl, wb_shl _ (by decide), mul4, show (1 : Int64) = lN 1 from rfl, wb_shl _ (by omega), show (16 : Int64) = lN 16 from rfl, lN_mul, lN_mul, Nat.one_mul]
  have h5 : c * 2 ^ (4 * k) < 2 ^ 62 := Nat.lt_of_le_of_lt (Nat.mul_le_mul hc h4) (by decide)
  rw [lNlt (sc_lt hk hx) (by omega), lNlt (by omega) h5]
  exact rule_nat hk
set_option maxRecDepth 100000 in
theorem ev_X12_kindsOf (U : TU) (lt : Int32) (B : TB2) (F A : TX) (se : AF) (R : TR) (O : TO) (V : TX) (al : AF) (dr : Int32) (hF : F.1 ≤ 8) (hA : AOK A) (s0 : Nat) (h9 : s0 ≤ 9) (h0 : se 0 = nI s0) (hV : VOK V) (j : Nat) (hj : j < F.1) : Ev MX12_kindsOf [.ref 0, .int (nI j)] (mwd U lt B F A se R O V al dr) (fun v w => v = some (.int (nI (brbN (fun v => seenB F.1 (upd F.2 (5 * j) (nI v)) (nmR A.2) (se 0) (se 1) (se 2) A.1 (SV V)) 4))) ∧ ∃ R2 : TR, w = (mwd U lt B F A se R2 O V al dr) ∧ RI F A se R2) := by
  refine ev_of bX12_kindsOf [some (.ref 0), some (.int (nI j)), none, none, none] (Nat.le_of_ble_eq_true rfl) rfl ?_
  refine go_aload_n dX12_kindsOf_0 rfl ?_
  refine go_getf fX12_28 dX12_kindsOf_1 rfl rfl ?_
  refine go_iconst (5) dX12_kindsOf_4 (by decide) ?_
  refine go_iload_n dX12_kindsOf_5 rfl ?_
  refine go_imul dX12_kindsOf_6 ?_
  rw [five0]
  refine go_iald dX12_kindsOf_7 rfl (vp_in_nI (by omega) (by decide)) ?_
  simp only [nI_clamp (show 5 * j < 2 ^ 31 by omega)]
  refine go_istore_n dX12_kindsOf_8 (by decide) ?_
  refine go_iconst (0) dX12_kindsOf_9 (by decide) ?_
  refine go_istore_n dX12_kindsOf_10 (by decide) ?_
  refine go_iconst (0) dX12_kindsOf_11 (by decide) ?_
  refine go_istore dX12_kindsOf_12 (by decide) ?_
  suffices loop : ∀ (d i : Nat) (y : Int32) (R : TR), i + d = 4 → Go X0 MX12_kindsOf (fun v w => v = some (.int (nI (brbN (fun v => seenB F.1 (upd F.2 (5 * j) (nI v)) (nmR A.2) (se 0) (se 1) (se 2) A.1 (SV V)) 4))) ∧ ∃ R2 : TR, w = (mwd U lt B F A se R2 O V al dr) ∧ RI F A se R2) 21 0 0 14 [some (.ref 0), some (.int (nI j)), some (.int (F.2 (5 * j))), some (.int (nI (brbN (fun v => seenB F.1 (upd F.2 (5 * j) (nI v)) (nmR A.2) (se 0) (se 1) (se 2) A.1 (SV V)) i))), some (.int (nI i))] [] (mwd U lt B (F.1, upd F.2 (5 * j) y) A se R O V al dr) from (by have := loop 4 0 (F.2 (5 * j)) R (by omega); rw [upd_same] at this; exact this)
  intro d
  induction d with
  | zero =>
    intro i y R hi
    obtain rfl : i = 4 := by omega
    refine go_iload dX12_kindsOf_14 rfl ?_
    refine go_iconst (4) dX12_kindsOf_16 (by decide) ?_
    refine go_icmp_ge 54 dX12_kindsOf_17 (by decide) (fun _ => ?_) (fun c_17 => absurd (by decide) c_17)
    refine go_aload_n dX12_kindsOf_54 rfl ?_
    refine go_getf fX12_28 dX12_kindsOf_55 rfl rfl ?_
    refine go_iconst (5) dX12_kindsOf_58 (by decide) ?_
    refine go_iload_n dX12_kindsOf_59 rfl ?_
    refine go_imul dX12_kindsOf_60 ?_
    rw [five0]
    refine go_iload_n dX12_kindsOf_61 rfl ?_
    refine go_iast dX12_kindsOf_62 rfl (vp_in_nI (by omega) (by decide)) ?_
    simp only [nI_clamp (show 5 * j < 2 ^ 31 by omega)]
    rw [upd_upd, upd_same]
    refine go_aload_n dX12_kindsOf_63 rfl ?_
    refine go_callVs (z := MX12_goes) dX12_kindsOf_64 lX12_162 sX12_goes (ev_X12_goes U lt B F A se R O V al dr hF hA s0 h9 h0) rfl rfl rfl ⟨_, _, rfl⟩ rfl rfl (fun v w1 h => by obtain ⟨-, F2, rfl, -⟩ := h; rfl) (fun v_64 w_64 h_64 => ?_)
    obtain ⟨rfl, R2, rfl, hR⟩ := h_64
    refine go_iload_n dX12_kindsOf_67 rfl ?_
    refine go_ireturn dX12_kindsOf_68 rfl rfl (Nat.le_of_ble_eq_true rfl) (Nat.le_of_ble_eq_true rfl) ?_
    exact ⟨rfl, R2, rfl, hR⟩
  | succ d ih =>
    intro i y R hi
    have hlt := brb_lt (fun v => seenB F.1 (upd F.2 (5 * j) (nI v)) (nmR A.2) (se 0) (se 1) (se 2) A.1 (SV V)) i
    refine go_iload dX12_kindsOf_14 rfl ?_
    refine go_iconst (4) dX12_kindsOf_16 (by decide) ?_
    refine go_icmp_ge 54 dX12_kindsOf_17 (by decide) (fun c_17 => absurd c_17 (nI_ge (b := 4) (by omega) (by decide))) (fun _ => ?_)
    refine go_aload_n dX12_kindsOf_20 rfl ?_
    refine go_getf fX12_28 dX12_kindsOf_21 rfl rfl ?_
    refine go_iconst (5) dX12_kindsOf_24 (by decide) ?_
    refine go_iload_n dX12_kindsOf_25 rfl ?_
    refine go_imul dX12_kindsOf_26 ?_
    rw [five0]
    refine go_iload dX12_kindsOf_27 rfl ?_
    refine go_iast dX12_kindsOf_29 rfl (vp_in_nI (by omega) (by decide)) ?_
    simp only [nI_clamp (show 5 * j < 2 ^ 31 by omega)]
    rw [upd_upd]
    refine go_iload_n dX12_kindsOf_30 rfl ?_
    refine go_aload_n dX12_kindsOf_31 rfl ?_
    refine go_callVs (z := MX12_isSeen) dX12_kindsOf_32 lX12_246 sX12_isSeen (ev_X12_isSeen U lt B (F.1, upd F.2 (5 * j) (nI i)) A se R O V al dr hF hA s0 h9 h0 hV) rfl rfl rfl ⟨_, _, rfl⟩ rfl rfl (fun v w1 h => by obtain ⟨-, F2, rfl, -⟩ := h; rfl) (fun v_32 w_32 h_32 => ?_)
    obtain ⟨rfl, R2, rfl, hR⟩ := h_32
    refine go_cut1 (J := 46) (fun v => nI (brbN (fun v => seenB F.1 (upd F.2 (5 * j) (nI v)) (nmR A.2) (se 0) (se 1) (se 2) A.1 (SV V)) i) ||| v = nI (brbN (fun v => seenB F.1 (upd F.2 (5 * j) (nI v)) (nmR A.2) (se 0) (se 1) (se 2) A.1 (SV V)) (i + 1))) (fun v_46 hv_46 => ?_) (fun kk_46 => ?_)
    case refine_2 =>
      refine go_if_eq 45 dX12_kindsOf_35 (by decide) (fun c_35 => ?_) (fun c_35 => ?_)
      · refine go_iconst (0) dX12_kindsOf_45 (by decide) ?_
        exact kk_46 _ (by
          first
          | rw [brb_f (ok := (fun v => seenB F.1 (upd F.2 (5 * j) (nI v)) (nmR A.2) (se 0) (se 1) (se 2) A.1 (SV V))) (v := i) (bool0 c_35), show (0 : Int32) = nI 0 from rfl, fa_or, Nat.or_zero]
          | rw [brb_t (ok := (fun v => seenB F.1 (upd F.2 (5 * j) (nI v)) (nmR A.2) (se 0) (se 1) (se 2) A.1 (SV V))) (v := i) (bool1 c_35), sh1 i (by omega), fa_or])
      · refine go_iconst (1) dX12_kindsOf_38 (by decide) ?_
        refine go_iload dX12_kindsOf_39 rfl ?_
        refine go_ishl dX12_kindsOf_41 ?_
        refine go_goto 46 dX12_kindsOf_42 (by decide) ?_
        exact kk_46 _ (by
          first
          | rw [brb_f (ok := (fun v => seenB F.1 (upd F.2 (5 * j) (nI v)) (nmR A.2) (se 0) (se 1) (se 2) A.1 (SV V))) (v := i) (bool0 c_35), show (0 : Int32) = nI 0 from rfl, fa_or, Nat.or_zero]
          | rw [brb_t (ok := (fun v => seenB F.1 (upd F.2 (5 * j) (nI v)) (nmR A.2) (se 0) (se 1) (se 2) A.1 (SV V))) (v := i) (bool1 c_35), sh1 i (by omega), fa_or])
    refine go_ior dX12_kindsOf_46 ?_
    refine go_istore_n dX12_kindsOf_47 (by decide) ?_
    refine go_iincN (1) dX12_kindsOf_48 rfl (by decide) (by decide) ?_
    refine go_goto 14 dX12_kindsOf_51 (by decide) ?_
    rw [nI_1, hv_46]
    exact ih (i + 1) (nI i) R2 (by omega)
set_option maxRecDepth 100000 in
theorem ev_X12_priceNow (U : TU) (lt : Int32) (B : TB2) (F A : TX) (se : AF) (R : TR) (O : TO) (V : TX) (al : AF) (dr : Int32) (hF : F.1 ≤ 8) (hA : AOK A) (s0 : Nat) (h9 : s0 ≤ 9) (h0 : se 0 = nI s0) (gl : Nat) (h8 : gl ≤ 8) (he : se 1 = nI gl) : Ev MX12_priceNow [.ref 0] (mwd U lt B F A se R O V al dr) (fun v w => v = some (.int (prcI (fun v => lvI F.1 F.2 (nmR A.2) (se 0) (se 1) (nI v) A.1) 10).1) ∧ ∃ R2 : TR, w = (mwd U lt B F A se R2 O V al dr) ∧ RI F A se R2) := by
  refine ev_of bX12_priceNow [some (.ref 0), none, none, none, none, none, none, none, none] (Nat.le_of_ble_eq_true rfl) rfl ?_
  refine go_aload_n dX12_priceNow_0 rfl ?_
  refine go_getf fX12_34 dX12_priceNow_1 rfl rfl ?_
  refine go_iconst (2) dX12_priceNow_4 (by decide) ?_
  refine go_iald dX12_priceNow_5 rfl (vp_in_nI (n := 2) (by decide) (by decide)) ?_
  rw [show se (2 : Int32).toNatClampNeg = se 2 from rfl]
  refine go_istore_n dX12_priceNow_6 (by decide) ?_
  refine go_iconst (-1) dX12_priceNow_7 (by decide) ?_
  refine go_istore_n dX12_priceNow_8 (by decide) ?_
  refine go_lconst 0 dX12_priceNow_9 (by decide) ?_
  refine go_lstore_n dX12_priceNow_10 (by decide) ?_
  refine go_iconst (0) dX12_priceNow_11 (by decide) ?_
  refine go_istore dX12_priceNow_12 (by decide) ?_
  suffices loop : ∀ (d i : Nat) (y best : Int32) (most : Int64) (R : TR) (x6 x7 x8 : Option Value), i + d = 10 → ((i = 0 ∧ best = -1 ∧ most = 0) ∨ ∃ b p, b < 10 ∧ best = nI b ∧ (prcI (fun v => lvI F.1 F.2 (nmR A.2) (se 0) (se 1) (nI v) A.1) i).1 = nI b ∧ (prcI (fun v => lvI F.1 F.2 (nmR A.2) (se 0) (se 1) (nI v) A.1) i).2 = lN p ∧ p ≤ 16 ^ gl ∧ most = lN (p * 2 ^ (32 - 4 * gl))) → Go X0 MX12_priceNow (fun v w => v = some (.int (prcI (fun v => lvI F.1 F.2 (nmR A.2) (se 0) (se 1) (nI v) A.1) 10).1) ∧ ∃ R2 : TR, w = (mwd U lt B F A se R2 O V al dr) ∧ RI F A se R2) 21 0 0 14 [some (.ref 0), some (.int (se 2)), some (.int best), some (.long most), none, some (.int (nI i)), x6, x7, x8] [] (mwd U lt B F A (upd se 2 y) R O V al dr) from (by have := loop 10 0 (se 2) (-1) 0 R none none none (by omega) (Or.inl ⟨rfl, rfl, rfl⟩); rw [upd_same] at this; exact this)
  intro d
  induction d with
  | zero =>
    intro i y best most R x6 x7 x8 hi hv
    obtain rfl : i = 10 := by omega
    obtain ⟨b, p, -, rfl, hb, -⟩ := hv.resolve_left (fun q => absurd q.1 (by decide))
    refine go_iload dX12_priceNow_14 rfl ?_
    refine go_bipush (10) dX12_priceNow_16 (by decide) ?_
    refine go_icmp_ge 88 dX12_priceNow_18 (by decide) (fun _ => ?_) (fun c_18 => absurd (by decide) c_18)
    refine go_aload_n dX12_priceNow_88 rfl ?_
    refine go_getf fX12_34 dX12_priceNow_89 rfl rfl ?_
    refine go_iconst (2) dX12_priceNow_92 (by decide) ?_
    refine go_iload_n dX12_priceNow_93 rfl ?_
    refine go_iast dX12_priceNow_94 rfl (vp_in_nI (n := 2) (by decide) (by decide)) ?_
    rw [show upd (upd se 2 y) (2 : Int32).toNatClampNeg (se 2) = se from (upd_upd se 2 y (se 2)).trans (upd_same se 2)]
    refine go_aload_n dX12_priceNow_95 rfl ?_
    refine go_callVs (z := MX12_goes) dX12_priceNow_96 lX12_162 sX12_goes (ev_X12_goes U lt B F A se R O V al dr hF hA s0 h9 h0) rfl rfl rfl ⟨_, _, rfl⟩ rfl rfl (fun v w1 h => by obtain ⟨-, F2, rfl, -⟩ := h; rfl) (fun v_96 w_96 h_96 => ?_)
    obtain ⟨rfl, R2, rfl, hR⟩ := h_96
    refine go_iload_n dX12_priceNow_99 rfl ?_
    refine go_ireturn dX12_priceNow_100 rfl rfl (Nat.le_of_ble_eq_true rfl) (Nat.le_of_ble_eq_true rfl) ?_
    exact ⟨by rw [hb], R2, rfl, hR⟩
  | succ d ih =>
    intro i y best most R x6 x7 x8 hi hv
    obtain ⟨l1, l2⟩ := lvW_ok F.1 F.2 (nmR A.2) (se 0) (nI i) gl h8 A.1
    have l3 : lvI F.1 F.2 (nmR A.2) (se 0) (se 1) (nI i) A.1 = lN (lvW F.1 F.2 (nmR A.2) (se 0) gl (nI i) A.1) := by rw [← l1, ← he]
    have l4 := x_lt h8 l2
    rcases hv with ⟨rfl, rfl, rfl⟩ | ⟨b, p, hb, rfl, h1, h2, h3, rfl⟩
    · have e : prcI (fun v => lvI F.1 F.2 (nmR A.2) (se 0) (se 1) (nI v) A.1) (0 + 1) = (nI 0, (fun v => lvI F.1 F.2 (nmR A.2) (se 0) (se 1) (nI v) A.1) 0) := prcI_gt (by
        rw [l3, Int64.le_iff_toInt_le, pf_lI (by omega), show (prcI (fun v => lvI F.1 F.2 (nmR A.2) (se 0) (se 1) (nI v) A.1) 0).2.toInt = -1 from rfl]
        omega)
      refine go_iload dX12_priceNow_14 rfl ?_
      refine go_bipush (10) dX12_priceNow_16 (by decide) ?_
      refine go_icmp_ge 88 dX12_priceNow_18 (by decide) (fun c_18 => absurd c_18 (nI_ge (a := 0) (b := 10) (by omega) (by decide))) (fun _ => ?_)
      refine go_aload_n dX12_priceNow_21 rfl ?_
      refine go_getf fX12_34 dX12_priceNow_22 rfl rfl ?_
      refine go_iconst (2) dX12_priceNow_25 (by decide) ?_
      refine go_iload dX12_priceNow_26 rfl ?_
      refine go_iast dX12_priceNow_28 rfl (vp_in_nI (n := 2) (by decide) (by decide)) ?_
      rw [show upd (upd se 2 y) (2 : Int32).toNatClampNeg (nI 0) = upd se 2 (nI 0) from upd_upd se 2 y (nI 0)]
      refine go_aload_n dX12_priceNow_29 rfl ?_
      refine go_callVs (z := MX12_goes) dX12_priceNow_30 lX12_162 sX12_goes (ev_X12_goes U lt B F A (upd se 2 (nI 0)) R O V al dr hF hA s0 h9 h0) rfl rfl rfl ⟨_, _, rfl⟩ rfl rfl (fun v w1 h => by obtain ⟨-, F2, rfl, -⟩ := h; rfl) (fun v_30 w_30 h_30 => ?_)
      obtain ⟨rfl, R2, rfl, hR⟩ := h_30
      refine go_aload_n dX12_priceNow_33 rfl ?_
      refine go_callVsj (z := MX12_livesNow) dX12_priceNow_34 lX12_188 sX12_livesNow (ev_X12_livesNow U lt B F A (upd se 2 (nI 0)) R2 O V al dr hA hR gl h8 he) rfl rfl rfl ⟨_, _, rfl⟩ rfl rfl ?_
      rw [show upd se 2 (nI 0) 0 = se 0 from rfl, show upd se 2 (nI 0) 2 = nI 0 from rfl]
      refine go_lstore dX12_priceNow_37 (by decide) ?_
      refine go_iload_n dX12_priceNow_39 rfl ?_
      refine go_iconst (-1) dX12_priceNow_40 (by decide) ?_
      refine go_icmp_eq 51 dX12_priceNow_41 (by decide) (fun _ => ?_) (fun c_41 => absurd (rfl) c_41)
      refine go_iconst (1) dX12_priceNow_51 (by decide) ?_
      refine go_goto 56 dX12_priceNow_52 (by decide) ?_
      refine go_istore dX12_priceNow_56 (by decide) ?_
      refine go_iload dX12_priceNow_58 rfl ?_
      refine go_if_eq 68 dX12_priceNow_60 (by decide) (fun c_60 => absurd c_60 (by decide)) (fun _ => ?_)
      refine go_iload dX12_priceNow_63 rfl ?_
      refine go_goto 69 dX12_priceNow_65 (by decide) ?_
      refine go_istore_n dX12_priceNow_69 (by decide) ?_
      refine go_iload dX12_priceNow_70 rfl ?_
      refine go_if_eq 80 dX12_priceNow_72 (by decide) (fun c_72 => absurd c_72 (by decide)) (fun _ => ?_)
      refine go_lload dX12_priceNow_75 rfl ?_
      refine go_goto 81 dX12_priceNow_77 (by decide) ?_
      refine go_lstore_n dX12_priceNow_81 (by decide) ?_
      refine go_iincN (1) dX12_priceNow_82 rfl (by decide) (by decide) ?_
      refine go_goto 14 dX12_priceNow_85 (by decide) ?_
      rw [nI_1]
      exact ih (0 + 1) (nI 0) (nI 0) _ R2 _ _ _ (by omega) (Or.inr ⟨0, lvW F.1 F.2 (nmR A.2) (se 0) gl (nI 0) A.1, by decide, rfl, by rw [e], by rw [e]; exact l3, l2, rfl⟩)
    · have p4 := x_lt h8 h3
      refine go_iload dX12_priceNow_14 rfl ?_
      refine go_bipush (10) dX12_priceNow_16 (by decide) ?_
      refine go_icmp_ge 88 dX12_priceNow_18 (by decide) (fun c_18 => absurd c_18 (nI_ge (b := 10) (by omega) (by decide))) (fun _ => ?_)
      refine go_aload_n dX12_priceNow_21 rfl ?_
      refine go_getf fX12_34 dX12_priceNow_22 rfl rfl ?_
      refine go_iconst (2) dX12_priceNow_25 (by decide) ?_
      refine go_iload dX12_priceNow_26 rfl ?_
      refine go_iast dX12_priceNow_28 rfl (vp_in_nI (n := 2) (by decide) (by decide)) ?_
      rw [show upd (upd se 2 y) (2 : Int32).toNatClampNeg (nI i) = upd se 2 (nI i) from upd_upd se 2 y (nI i)]
      refine go_aload_n dX12_priceNow_29 rfl ?_
      refine go_callVs (z := MX12_goes) dX12_priceNow_30 lX12_162 sX12_goes (ev_X12_goes U lt B F A (upd se 2 (nI i)) R O V al dr hF hA s0 h9 h0) rfl rfl rfl ⟨_, _, rfl⟩ rfl rfl (fun v w1 h => by obtain ⟨-, F2, rfl, -⟩ := h; rfl) (fun v_30 w_30 h_30 => ?_)
      obtain ⟨rfl, R2, rfl, hR⟩ := h_30
      refine go_aload_n dX12_priceNow_33 rfl ?_
      refine go_callVsj (z := MX12_livesNow) dX12_priceNow_34 lX12_188 sX12_livesNow (ev_X12_livesNow U lt B F A (upd se 2 (nI i)) R2 O V al dr hA hR gl h8 he) rfl rfl rfl ⟨_, _, rfl⟩ rfl rfl ?_
      rw [show upd se 2 (nI i) 0 = se 0 from rfl, show upd se 2 (nI i) 2 = nI i from rfl]
      refine go_lstore dX12_priceNow_37 (by decide) ?_
      refine go_iload_n dX12_priceNow_39 rfl ?_
      refine go_iconst (-1) dX12_priceNow_40 (by decide) ?_
      refine go_icmp_eq 51 dX12_priceNow_41 (by decide) (fun c_41 => absurd c_41 (nI_ne1 (by omega))) (fun _ => ?_)
      refine go_lload dX12_priceNow_44 rfl ?_
      refine go_lload_n dX12_priceNow_46 rfl ?_
      refine go_lcmp dX12_priceNow_47 ?_
      refine go_cut1 (J := 56) (fun v => v = if lvW F.1 F.2 (nmR A.2) (se 0) gl (nI i) A.1 ≤ p then (0 : Int32) else 1) (fun v_56 hv_56 => ?_) (fun kk_56 => ?_)
      case refine_2 =>
        refine go_if_le 55 dX12_priceNow_48 (by decide) (fun c_48 => ?_) (fun c_48 => ?_)
        · refine go_iconst (0) dX12_priceNow_55 (by decide) ?_
          exact kk_56 _ (by first | rw [if_pos ((cmp_sc h8 l2 h3).mp c_48)] | rw [if_neg (fun q => c_48 ((cmp_sc h8 l2 h3).mpr q))])
        · refine go_iconst (1) dX12_priceNow_51 (by decide) ?_
          refine go_goto 56 dX12_priceNow_52 (by decide) ?_
          exact kk_56 _ (by first | rw [if_pos ((cmp_sc h8 l2 h3).mp c_48)] | rw [if_neg (fun q => c_48 ((cmp_sc h8 l2 h3).mpr q))])
      refine go_istore dX12_priceNow_56 (by decide) ?_
      refine go_iload dX12_priceNow_58 rfl ?_
      refine go_cut1 (J := 69) (fun v => v = if lvW F.1 F.2 (nmR A.2) (se 0) gl (nI i) A.1 ≤ p then nI b else nI i) (fun v_69 hv_69 => ?_) (fun kk_69 => ?_)
      case refine_2 =>
        refine go_if_eq 68 dX12_priceNow_60 (by decide) (fun c_60 => ?_) (fun c_60 => ?_)
        · refine go_iload_n dX12_priceNow_68 rfl ?_
          exact kk_69 _ (by
            by_cases q : lvW F.1 F.2 (nmR A.2) (se 0) gl (nI i) A.1 ≤ p
            · rw [if_pos q] at hv_56
              refine Eq.trans ?_ (if_pos q).symm
              first
              | rfl
              | exact absurd hv_56 c_60
            · rw [if_neg q] at hv_56
              refine Eq.trans ?_ (if_neg q).symm
              first
              | rfl
              | exact absurd (hv_56.symm.trans c_60) (by decide))
        · refine go_iload dX12_priceNow_63 rfl ?_
          refine go_goto 69 dX12_priceNow_65 (by decide) ?_
          exact kk_69 _ (by
            by_cases q : lvW F.1 F.2 (nmR A.2) (se 0) gl (nI i) A.1 ≤ p
            · rw [if_pos q] at hv_56
              refine Eq.trans ?_ (if_pos q).symm
              first
              | rfl
              | exact absurd hv_56 c_60
            · rw [if_neg q] at hv_56
              refine Eq.trans ?_ (if_neg q).symm
              first
              | rfl
              | exact absurd (hv_56.symm.trans c_60) (by decide))
      refine go_istore_n dX12_priceNow_69 (by decide) ?_
      refine go_iload dX12_priceNow_70 rfl ?_
      refine go_cut1L (J := 81) (fun v => v = if lvW F.1 F.2 (nmR A.2) (se 0) gl (nI i) A.1 ≤ p then lN (p * 2 ^ (32 - 4 * gl)) else lN (lvW F.1 F.2 (nmR A.2) (se 0) gl (nI i) A.1 * 2 ^ (32 - 4 * gl))) (fun v_81 hv_81 => ?_) (fun kk_81 => ?_)
      case refine_2 =>
        refine go_if_eq 80 dX12_priceNow_72 (by decide) (fun c_72 => ?_) (fun c_72 => ?_)
        · refine go_lload_n dX12_priceNow_80 rfl ?_
          exact kk_81 _ (by
            by_cases q : lvW F.1 F.2 (nmR A.2) (se 0) gl (nI i) A.1 ≤ p
            · rw [if_pos q] at hv_56
              refine Eq.trans ?_ (if_pos q).symm
              first
              | rfl
              | exact absurd hv_56 c_72
            · rw [if_neg q] at hv_56
              refine Eq.trans ?_ (if_neg q).symm
              first
              | rfl
              | exact absurd (hv_56.symm.trans c_72) (by decide))
        · refine go_lload dX12_priceNow_75 rfl ?_
          refine go_goto 81 dX12_priceNow_77 (by decide) ?_
          exact kk_81 _ (by
            by_cases q : lvW F.1 F.2 (nmR A.2) (se 0) gl (nI i) A.1 ≤ p
            · rw [if_pos q] at hv_56
              refine Eq.trans ?_ (if_pos q).symm
              first
              | rfl
              | exact absurd hv_56 c_72
            · rw [if_neg q] at hv_56
              refine Eq.trans ?_ (if_neg q).symm
              first
              | rfl
              | exact absurd (hv_56.symm.trans c_72) (by decide))
      refine go_lstore_n dX12_priceNow_81 (by decide) ?_
      refine go_iincN (1) dX12_priceNow_82 rfl (by decide) (by decide) ?_
      refine go_goto 14 dX12_priceNow_85 (by decide) ?_
      rw [nI_1]
      refine ih (i + 1) (nI i) _ _ R2 _ _ _ (by omega) (Or.inr ?_)
      rw [hv_69, hv_81]
      by_cases q : lvW F.1 F.2 (nmR A.2) (se 0) gl (nI i) A.1 ≤ p
      · rw [prcI_le (by rw [l3, h2, lNle (by omega) (by omega)]; exact q), if_pos q, if_pos q]
        exact ⟨b, p, hb, rfl, h1, h2, h3, rfl⟩
      · rw [prcI_gt (by rw [l3, h2, lNle (by omega) (by omega)]; exact q), if_neg q, if_neg q]
        exact ⟨i, _, by omega, rfl, rfl, l3, l2, rfl⟩
set_option maxRecDepth 100000 in
theorem ev_X12_ruleOf (U : TU) (lt : Int32) (B : TB2) (F A : TX) (se : AF) (R : TR) (O : TO) (V : TX) (al : AF) (dr : Int32) (hF : F.1 ≤ 8) (hA : AOK A) (s0 : Nat) (h9 : s0 ≤ 9) (h0 : se 0 = nI s0) (c : Nat) (hc : c ≤ 16) : Ev MX12_ruleOf [.ref 0, .int (nI c)] (mwd U lt B F A se R O V al dr) (fun v w => v = some (.int (rulD (okR (fun k => lvI F.1 F.2 (nmR A.2) (se 0) (nI k) (se 2) A.1) (nI c)) 8)) ∧ ∃ R2 : TR, w = (mwd U lt B F A se R2 O V al dr) ∧ RI F A se R2) := by
  refine ev_of bX12_ruleOf [some (.ref 0), some (.int (nI c)), none, none, none] (Nat.le_of_ble_eq_true rfl) rfl ?_
  refine go_aload_n dX12_ruleOf_0 rfl ?_
  refine go_getf fX12_34 dX12_ruleOf_1 rfl rfl ?_
  refine go_iconst (1) dX12_ruleOf_4 (by decide) ?_
  refine go_iald dX12_ruleOf_5 rfl (vp_in_nI (n := 1) (by decide) (by decide)) ?_
  rw [show se (1 : Int32).toNatClampNeg = se 1 from rfl]
  refine go_istore_n dX12_ruleOf_6 (by decide) ?_
  refine go_iconst (-1) dX12_ruleOf_7 (by decide) ?_
  refine go_istore_n dX12_ruleOf_8 (by decide) ?_
  refine go_iconst (1) dX12_ruleOf_9 (by decide) ?_
  refine go_istore dX12_ruleOf_10 (by decide) ?_
  suffices loop : ∀ (d k : Nat) (y : Int32) (R : TR), k + d = 8 → Go X0 MX12_ruleOf (fun v w => v = some (.int (rulD (okR (fun k => lvI F.1 F.2 (nmR A.2) (se 0) (nI k) (se 2) A.1) (nI c)) 8)) ∧ ∃ R2 : TR, w = (mwd U lt B F A se R2 O V al dr) ∧ RI F A se R2) 21 0 0 12 [some (.ref 0), some (.int (nI c)), some (.int (se 1)), some (.int (rulD (okR (fun k => lvI F.1 F.2 (nmR A.2) (se 0) (nI k) (se 2) A.1) (nI c)) k)), some (.int (nI (k + 1)))] [] (mwd U lt B F A (upd se 1 y) R O V al dr) from (by have := loop 8 0 (se 1) R (by omega); rw [upd_same] at this; exact this)
  intro d
  induction d with
  | zero =>
    intro k y R hi
    obtain rfl : k = 8 := by omega
    refine go_iload dX12_ruleOf_12 rfl ?_
    refine go_bipush (9) dX12_ruleOf_14 (by decide) ?_
    refine go_icmp_ge 57 dX12_ruleOf_16 (by decide) (fun _ => ?_) (fun c_16 => absurd (by decide) c_16)
    refine go_aload_n dX12_ruleOf_57 rfl ?_
    refine go_getf fX12_34 dX12_ruleOf_58 rfl rfl ?_
    refine go_iconst (1) dX12_ruleOf_61 (by decide) ?_
    refine go_iload_n dX12_ruleOf_62 rfl ?_
    refine go_iast dX12_ruleOf_63 rfl (vp_in_nI (n := 1) (by decide) (by decide)) ?_
    rw [show upd (upd se 1 y) (1 : Int32).toNatClampNeg (se 1) = se from (upd_upd se 1 y (se 1)).trans (upd_same se 1)]
    refine go_aload_n dX12_ruleOf_64 rfl ?_
    refine go_callVs (z := MX12_goes) dX12_ruleOf_65 lX12_162 sX12_goes (ev_X12_goes U lt B F A se R O V al dr hF hA s0 h9 h0) rfl rfl rfl ⟨_, _, rfl⟩ rfl rfl (fun v w1 h => by obtain ⟨-, F2, rfl, -⟩ := h; rfl) (fun v_65 w_65 h_65 => ?_)
    obtain ⟨rfl, R2, rfl, hR⟩ := h_65
    refine go_iload_n dX12_ruleOf_68 rfl ?_
    refine go_ireturn dX12_ruleOf_69 rfl rfl (Nat.le_of_ble_eq_true rfl) (Nat.le_of_ble_eq_true rfl) ?_
    exact ⟨rfl, R2, rfl, hR⟩
  | succ d ih =>
    intro k y R hi
    obtain ⟨l1, l2⟩ := lvW_ok F.1 F.2 (nmR A.2) (se 0) (se 2) (k + 1) (by omega) A.1
    have l3 := rule_eq (x := lvW F.1 F.2 (nmR A.2) (se 0) (k + 1) (se 2) A.1) (c := c) (k := k + 1) (by omega) l2 hc
    refine go_iload dX12_ruleOf_12 rfl ?_
    refine go_bipush (9) dX12_ruleOf_14 (by decide) ?_
    refine go_icmp_ge 57 dX12_ruleOf_16 (by decide) (fun c_16 => absurd c_16 (nI_ge (b := 9) (by omega) (by decide))) (fun _ => ?_)
    refine go_aload_n dX12_ruleOf_19 rfl ?_
    refine go_getf fX12_34 dX12_ruleOf_20 rfl rfl ?_
    refine go_iconst (1) dX12_ruleOf_23 (by decide) ?_
    refine go_iload dX12_ruleOf_24 rfl ?_
    refine go_iast dX12_ruleOf_26 rfl (vp_in_nI (n := 1) (by decide) (by decide)) ?_
    rw [show upd (upd se 1 y) (1 : Int32).toNatClampNeg (nI (k + 1)) = upd se 1 (nI (k + 1)) from upd_upd se 1 y (nI (k + 1))]
    refine go_aload_n dX12_ruleOf_27 rfl ?_
    refine go_callVs (z := MX12_goes) dX12_ruleOf_28 lX12_162 sX12_goes (ev_X12_goes U lt B F A (upd se 1 (nI (k + 1))) R O V al dr hF hA s0 h9 h0) rfl rfl rfl ⟨_, _, rfl⟩ rfl rfl (fun v w1 h => by obtain ⟨-, F2, rfl, -⟩ := h; rfl) (fun v_28 w_28 h_28 => ?_)
    obtain ⟨rfl, R2, rfl, hR⟩ := h_28
    refine go_aload_n dX12_ruleOf_31 rfl ?_
    refine go_callVsj (z := MX12_livesNow) dX12_ruleOf_32 lX12_188 sX12_livesNow (ev_X12_livesNow U lt B F A (upd se 1 (nI (k + 1))) R2 O V al dr hA hR (k + 1) (by omega) rfl) rfl rfl rfl ⟨_, _, rfl⟩ rfl rfl ?_
    rw [show upd se 1 (nI (k + 1)) 0 = se 0 from rfl, show upd se 1 (nI (k + 1)) 2 = se 2 from rfl]
    refine go_iload_n dX12_ruleOf_35 rfl ?_
    refine go_i2l dX12_ruleOf_36 ?_
    refine go_bipush (28) dX12_ruleOf_37 (by decide) ?_
    refine go_lshl dX12_ruleOf_39 ?_
    refine go_lcmp dX12_ruleOf_40 ?_
    refine go_cut1 (J := 50) (fun v => v = rulD (okR (fun k => lvI F.1 F.2 (nmR A.2) (se 0) (nI k) (se 2) A.1) (nI c)) (k + 1)) (fun v_50 hv_50 => ?_) (fun kk_50 => ?_)
    case refine_2 =>
      refine go_if_lt 49 dX12_ruleOf_41 (by decide) (fun c_41 => ?_) (fun c_41 => ?_)
      · refine go_iload_n dX12_ruleOf_49 rfl ?_
        exact kk_50 _ (by
          first
          | rw [rulD_f (fun q => absurd (of_decide_eq_true q) (fun z => z (by
              show lvI F.1 F.2 (nmR A.2) (se 0) (nI (k + 1)) (se 2) A.1 * 16 < _
              rw [l1]
              exact l3.mp ((lg_cmp_lt _ _).mp c_41))))]
          | (have q : (okR (fun k => lvI F.1 F.2 (nmR A.2) (se 0) (nI k) (se 2) A.1) (nI c)) (k + 1) = true := by
               unfold okR
               rw [decide_eq_true_eq]
               intro z
               dsimp only at z
               rw [l1] at z
               exact c_41 ((lg_cmp_lt _ _).mpr (l3.mpr z))
             rw [rulD_t q]))
      · refine go_iload dX12_ruleOf_44 rfl ?_
        refine go_goto 50 dX12_ruleOf_46 (by decide) ?_
        exact kk_50 _ (by
          first
          | rw [rulD_f (fun q => absurd (of_decide_eq_true q) (fun z => z (by
              show lvI F.1 F.2 (nmR A.2) (se 0) (nI (k + 1)) (se 2) A.1 * 16 < _
              rw [l1]
              exact l3.mp ((lg_cmp_lt _ _).mp c_41))))]
          | (have q : (okR (fun k => lvI F.1 F.2 (nmR A.2) (se 0) (nI k) (se 2) A.1) (nI c)) (k + 1) = true := by
               unfold okR
               rw [decide_eq_true_eq]
               intro z
               dsimp only at z
               rw [l1] at z
               exact c_41 ((lg_cmp_lt _ _).mpr (l3.mpr z))
             rw [rulD_t q]))
    refine go_istore_n dX12_ruleOf_50 (by decide) ?_
    refine go_iincN (1) dX12_ruleOf_51 rfl (by decide) (by decide) ?_
    refine go_goto 12 dX12_ruleOf_54 (by decide) ?_
    rw [nI_1, hv_50]
    exact ih (k + 1) (nI (k + 1)) R2 (by omega)
