set_option maxRecDepth 100000 in
theorem ev_X12_lot (U : TU) (lt : Int32) (B : TB2) (F A : TX) (se : AF) (R : TR) (O : TO) (V : TX) (al : AF) (dr : Int32) : Ev MX12_lot [.ref 0, .int 16] (mwd U lt B F A se R O V al dr) (Rw (some (.int (lotI dr))) (mwd U lt B F A se R O V al (seedI dr))) := by
  refine ev_of bX12_lot [some (.ref 0), some (.int 16)] (Nat.le_of_ble_eq_true rfl) rfl ?_
  refine go_aload_n dX12_lot_0 rfl ?_
  refine go_ldc_w dX12_lot_1 kX12_259 ?_
  refine go_aload_n dX12_lot_4 rfl ?_
  refine go_getf fX12_260 dX12_lot_5 rfl rfl ?_
  refine go_imul dX12_lot_8 ?_
  refine go_sipush (12345) dX12_lot_9 (by decide) ?_
  refine go_iadd dX12_lot_12 ?_
  refine go_putf fX12_260 dX12_lot_13 rfl (fun _ _ _ h => by cases h; rfl) (fun _ => rfl) (fun _ => rfl) (Nat.le_of_ble_eq_true rfl) ?_
  refine go_aload_n dX12_lot_16 rfl ?_
  refine go_getf fX12_260 dX12_lot_17 rfl rfl ?_
  refine go_bipush (16) dX12_lot_20 (by decide) ?_
  refine go_iushr dX12_lot_22 ?_
  refine go_iload_n dX12_lot_23 rfl ?_
  refine go_irem dX12_lot_24 (by decide) ?_
  refine go_ireturn dX12_lot_25 rfl rfl (Nat.le_of_ble_eq_true rfl) (Nat.le_of_ble_eq_true rfl) ?_
  exact ⟨rfl, rfl⟩
theorem pl_go {cm sx : Nat → Int32} {d i : Nat} {s : Int32} (h : ¬ cm i = 3) : plI cm sx (d + 1) i s = plI cm sx d (i + 1) s := if_neg h
theorem pl_win {cm sx : Nat → Int32} {d i : Nat} {s : Int32} (h : cm i = 3) (q : lotI s < sx i) : plI cm sx (d + 1) i s = plI cm sx d (i + 1) (seedI s) := (if_pos h).trans (if_pos q)
theorem pl_die {cm sx : Nat → Int32} {d i : Nat} {s : Int32} (h : cm i = 3) (q : ¬ lotI s < sx i) : plI cm sx (d + 1) i s = (i, seedI s) := (if_pos h).trans (if_neg q)
set_option maxRecDepth 100000 in
theorem ev_X12_gaolsOf (U : TU) (lt : Int32) (B : TB2) (F A : TX) (se : AF) (R : TR) (O : TO) (V : TX) (al : AF) (dr : Int32) (hA : AOK A) (hR : RI F A se R) (n : Nat) (hn : n ≤ 99) (seed y : Int32) (hy : y = 0 ∨ y = 1) : Ev MX12_gaolsOf [.ref 0, .int seed, .int (nI n), .int y] (mwd U lt B F A se R O V al dr) (fun v w => v = some (.int (if y = 0 then ((galS (wC F.1 F.2 (nmR A.2) (se 0) (se 1) (se 2)) (wX F.1 F.2 (nmR A.2) (se 0) (se 1) (se 2)) (wN F.1 F.2 (nmR A.2) (se 0) (se 1) (se 2)) A.1 (decide (¬ (wst F.1 F.2 (nmR A.2) (se 0) (se 1) (se 2) A.1).2 < se 1)) seed n)).2.1 else ((galS (wC F.1 F.2 (nmR A.2) (se 0) (se 1) (se 2)) (wX F.1 F.2 (nmR A.2) (se 0) (se 1) (se 2)) (wN F.1 F.2 (nmR A.2) (se 0) (se 1) (se 2)) A.1 (decide (¬ (wst F.1 F.2 (nmR A.2) (se 0) (se 1) (se 2) A.1).2 < se 1)) seed n)).2.2)) ∧ ∃ s2 : Int32, w = (mwd U lt B F A se R O V al s2)) := by
  refine ev_of bX12_gaolsOf [some (.ref 0), some (.int seed), some (.int (nI n)), some (.int y), none, none, none, none] (Nat.le_of_ble_eq_true rfl) rfl ?_
  have hA1 := hA.1
  refine go_aload_n dX12_gaolsOf_0 rfl ?_
  refine go_iload_n dX12_gaolsOf_1 rfl ?_
  refine go_putf fX12_260 dX12_gaolsOf_2 rfl (fun _ _ _ h => by cases h; rfl) (fun _ => rfl) (fun _ => rfl) (Nat.le_of_ble_eq_true rfl) ?_
  refine go_iconst (0) dX12_gaolsOf_5 (by decide) ?_
  refine go_istore dX12_gaolsOf_6 (by decide) ?_
  refine go_iconst (0) dX12_gaolsOf_8 (by decide) ?_
  refine go_istore dX12_gaolsOf_9 (by decide) ?_
  suffices loop : ∀ (d t : Nat) (x6 x7 : Option Value), t + d = n → Go X0 MX12_gaolsOf (fun v w => v = some (.int (if y = 0 then ((galS (wC F.1 F.2 (nmR A.2) (se 0) (se 1) (se 2)) (wX F.1 F.2 (nmR A.2) (se 0) (se 1) (se 2)) (wN F.1 F.2 (nmR A.2) (se 0) (se 1) (se 2)) A.1 (decide (¬ (wst F.1 F.2 (nmR A.2) (se 0) (se 1) (se 2) A.1).2 < se 1)) seed n)).2.1 else ((galS (wC F.1 F.2 (nmR A.2) (se 0) (se 1) (se 2)) (wX F.1 F.2 (nmR A.2) (se 0) (se 1) (se 2)) (wN F.1 F.2 (nmR A.2) (se 0) (se 1) (se 2)) A.1 (decide (¬ (wst F.1 F.2 (nmR A.2) (se 0) (se 1) (se 2) A.1).2 < se 1)) seed n)).2.2)) ∧ ∃ s2 : Int32, w = (mwd U lt B F A se R O V al s2)) 21 0 0 11 [some (.ref 0), some (.int seed), some (.int (nI n)), some (.int y), some (.int (if y = 0 then ((galS (wC F.1 F.2 (nmR A.2) (se 0) (se 1) (se 2)) (wX F.1 F.2 (nmR A.2) (se 0) (se 1) (se 2)) (wN F.1 F.2 (nmR A.2) (se 0) (se 1) (se 2)) A.1 (decide (¬ (wst F.1 F.2 (nmR A.2) (se 0) (se 1) (se 2) A.1).2 < se 1)) seed t)).2.1 else ((galS (wC F.1 F.2 (nmR A.2) (se 0) (se 1) (se 2)) (wX F.1 F.2 (nmR A.2) (se 0) (se 1) (se 2)) (wN F.1 F.2 (nmR A.2) (se 0) (se 1) (se 2)) A.1 (decide (¬ (wst F.1 F.2 (nmR A.2) (se 0) (se 1) (se 2) A.1).2 < se 1)) seed t)).2.2)), some (.int (nI t)), x6, x7] [] (mwd U lt B F A se R O V al ((galS (wC F.1 F.2 (nmR A.2) (se 0) (se 1) (se 2)) (wX F.1 F.2 (nmR A.2) (se 0) (se 1) (se 2)) (wN F.1 F.2 (nmR A.2) (se 0) (se 1) (se 2)) A.1 (decide (¬ (wst F.1 F.2 (nmR A.2) (se 0) (se 1) (se 2) A.1).2 < se 1)) seed t)).1) from (by
    have := loop n 0 none none (by omega)
    rw [show (if y = 0 then ((galS (wC F.1 F.2 (nmR A.2) (se 0) (se 1) (se 2)) (wX F.1 F.2 (nmR A.2) (se 0) (se 1) (se 2)) (wN F.1 F.2 (nmR A.2) (se 0) (se 1) (se 2)) A.1 (decide (¬ (wst F.1 F.2 (nmR A.2) (se 0) (se 1) (se 2) A.1).2 < se 1)) seed 0)).2.1 else ((galS (wC F.1 F.2 (nmR A.2) (se 0) (se 1) (se 2)) (wX F.1 F.2 (nmR A.2) (se 0) (se 1) (se 2)) (wN F.1 F.2 (nmR A.2) (se 0) (se 1) (se 2)) A.1 (decide (¬ (wst F.1 F.2 (nmR A.2) (se 0) (se 1) (se 2) A.1).2 < se 1)) seed 0)).2.2) = 0 by rw [galS, ite_self]] at this
    exact this)
  intro d
  induction d with
  | zero =>
    intro t x6 x7 hi
    rw [show t = n by omega]
    refine go_iload dX12_gaolsOf_11 rfl ?_
    refine go_iload_n dX12_gaolsOf_13 rfl ?_
    refine go_icmp_ge 149 dX12_gaolsOf_14 (by decide) (fun _ => ?_) (fun c_14 => absurd (Int32.le_refl _) c_14)
    refine go_iload dX12_gaolsOf_149 rfl ?_
    refine go_ireturn dX12_gaolsOf_151 rfl rfl (Nat.le_of_ble_eq_true rfl) (Nat.le_of_ble_eq_true rfl) ?_
    exact ⟨rfl, _, rfl⟩
  | succ d ih =>
    intro t x6 x7 hi
    refine go_iload dX12_gaolsOf_11 rfl ?_
    refine go_iload_n dX12_gaolsOf_13 rfl ?_
    refine go_icmp_ge 149 dX12_gaolsOf_14 (by decide) (fun c_14 => absurd c_14 (nI_ge (by omega) (by omega))) (fun _ => ?_)
    refine go_iconst (1) dX12_gaolsOf_17 (by decide) ?_
    refine go_istore dX12_gaolsOf_18 (by decide) ?_
    refine go_iconst (0) dX12_gaolsOf_20 (by decide) ?_
    refine go_istore dX12_gaolsOf_21 (by decide) ?_
    have hw : ∀ (i : Nat), i < A.1 → R.1 i = wC F.1 F.2 (nmR A.2) (se 0) (se 1) (se 2) i ∧ R.2.1 i = wX F.1 F.2 (nmR A.2) (se 0) (se 1) (se 2) i := hR.1
    have after : ∀ (b : Bool) (r : Nat) (s : Int32) (x7 : Option Value), r ≤ A.1 → plI (wC F.1 F.2 (nmR A.2) (se 0) (se 1) (se 2)) (wX F.1 F.2 (nmR A.2) (se 0) (se 1) (se 2)) A.1 0 ((galS (wC F.1 F.2 (nmR A.2) (se 0) (se 1) (se 2)) (wX F.1 F.2 (nmR A.2) (se 0) (se 1) (se 2)) (wN F.1 F.2 (nmR A.2) (se 0) (se 1) (se 2)) A.1 (decide (¬ (wst F.1 F.2 (nmR A.2) (se 0) (se 1) (se 2) A.1).2 < se 1)) seed t)).1 = (r, s) → (b = true ↔ r = A.1) → Go X0 MX12_gaolsOf (fun v w => v = some (.int (if y = 0 then ((galS (wC F.1 F.2 (nmR A.2) (se 0) (se 1) (se 2)) (wX F.1 F.2 (nmR A.2) (se 0) (se 1) (se 2)) (wN F.1 F.2 (nmR A.2) (se 0) (se 1) (se 2)) A.1 (decide (¬ (wst F.1 F.2 (nmR A.2) (se 0) (se 1) (se 2) A.1).2 < se 1)) seed n)).2.1 else ((galS (wC F.1 F.2 (nmR A.2) (se 0) (se 1) (se 2)) (wX F.1 F.2 (nmR A.2) (se 0) (se 1) (se 2)) (wN F.1 F.2 (nmR A.2) (se 0) (se 1) (se 2)) A.1 (decide (¬ (wst F.1 F.2 (nmR A.2) (se 0) (se 1) (se 2) A.1).2 < se 1)) seed n)).2.2)) ∧ ∃ s2 : Int32, w = (mwd U lt B F A se R O V al s2)) 21 0 0 106 [some (.ref 0), some (.int seed), some (.int (nI n)), some (.int y), some (.int ((if y = 0 then ((galS (wC F.1 F.2 (nmR A.2) (se 0) (se 1) (se 2)) (wX F.1 F.2 (nmR A.2) (se 0) (se 1) (se 2)) (wN F.1 F.2 (nmR A.2) (se 0) (se 1) (se 2)) A.1 (decide (¬ (wst F.1 F.2 (nmR A.2) (se 0) (se 1) (se 2) A.1).2 < se 1)) seed t)).2.1 else ((galS (wC F.1 F.2 (nmR A.2) (se 0) (se 1) (se 2)) (wX F.1 F.2 (nmR A.2) (se 0) (se 1) (se 2)) (wN F.1 F.2 (nmR A.2) (se 0) (se 1) (se 2)) A.1 (decide (¬ (wst F.1 F.2 (nmR A.2) (se 0) (se 1) (se 2) A.1).2 < se 1)) seed t)).2.2) + if y = 1 then wN F.1 F.2 (nmR A.2) (se 0) (se 1) (se 2) r else 0)), some (.int (nI t)), some (.int (if b = true then 1 else 0)), x7] [] (mwd U lt B F A se R O V al s) := by
      intro b r s x7 hr hp hb
      refine go_iload dX12_gaolsOf_106 rfl ?_
      refine go_iload_n dX12_gaolsOf_108 rfl ?_
      refine go_cut1 (J := 140) (fun v => v = if y = 0 ∧ b = true ∧ ¬ (wst F.1 F.2 (nmR A.2) (se 0) (se 1) (se 2) A.1).2 < se 1 then 1 else 0) (fun v_140 hv_140 => ?_) (fun kk_140 => ?_)
      case refine_2 =>
        refine go_if_ne 139 dX12_gaolsOf_109 (by decide) (fun c_109 => ?_) (fun c_109 => ?_)
        · refine go_iconst (0) dX12_gaolsOf_139 (by decide) ?_
          exact kk_140 _ (by
            first
            | exact (if_neg (fun q => c_109 q.1)).symm
            | exact (if_neg (fun q => bool0 c_114 q.2.1)).symm
            | exact (if_pos ⟨c_109, bool1 c_114, c_132⟩).symm
            | exact (if_neg (fun q => q.2.2 c_132)).symm)
        · refine go_iload dX12_gaolsOf_112 rfl ?_
          refine go_if_eq 139 dX12_gaolsOf_114 (by decide) (fun c_114 => ?_) (fun c_114 => ?_)
          · refine go_iconst (0) dX12_gaolsOf_139 (by decide) ?_
            exact kk_140 _ (by
              first
              | exact (if_neg (fun q => c_109 q.1)).symm
              | exact (if_neg (fun q => bool0 c_114 q.2.1)).symm
              | exact (if_pos ⟨c_109, bool1 c_114, c_132⟩).symm
              | exact (if_neg (fun q => q.2.2 c_132)).symm)
          · refine go_aload_n dX12_gaolsOf_117 rfl ?_
            refine go_getf fX12_46 dX12_gaolsOf_118 rfl rfl ?_
            refine go_aload_n dX12_gaolsOf_121 rfl ?_
            refine go_getf fX12_118 dX12_gaolsOf_122 rfl rfl ?_
            refine go_iald dX12_gaolsOf_125 rfl (vp_in_nI (by omega) (by decide)) ?_
            simp only [nI_clamp (show A.1 < 2 ^ 31 by omega)]
            rw [(hR.2 A.1 (Nat.le_refl _)).2]
            refine go_aload_n dX12_gaolsOf_126 rfl ?_
            refine go_getf fX12_34 dX12_gaolsOf_127 rfl rfl ?_
            refine go_iconst (1) dX12_gaolsOf_130 (by decide) ?_
            refine go_iald dX12_gaolsOf_131 rfl (vp_in_nI (n := 1) (by decide) (by decide)) ?_
            rw [show se (1 : Int32).toNatClampNeg = se 1 from rfl]
            refine go_icmp_lt 139 dX12_gaolsOf_132 (by decide) (fun c_132 => ?_) (fun c_132 => ?_)
            · refine go_iconst (0) dX12_gaolsOf_139 (by decide) ?_
              exact kk_140 _ (by
                first
                | exact (if_neg (fun q => c_109 q.1)).symm
                | exact (if_neg (fun q => bool0 c_114 q.2.1)).symm
                | exact (if_pos ⟨c_109, bool1 c_114, c_132⟩).symm
                | exact (if_neg (fun q => q.2.2 c_132)).symm)
            · refine go_iconst (1) dX12_gaolsOf_135 (by decide) ?_
              refine go_goto 140 dX12_gaolsOf_136 (by decide) ?_
              exact kk_140 _ (by
                first
                | exact (if_neg (fun q => c_109 q.1)).symm
                | exact (if_neg (fun q => bool0 c_114 q.2.1)).symm
                | exact (if_pos ⟨c_109, bool1 c_114, c_132⟩).symm
                | exact (if_neg (fun q => q.2.2 c_132)).symm)
      refine go_iadd dX12_gaolsOf_140 ?_
      refine go_istore dX12_gaolsOf_141 (by decide) ?_
      refine go_iincN (1) dX12_gaolsOf_143 rfl (by decide) (by decide) ?_
      refine go_goto 11 dX12_gaolsOf_146 (by decide) ?_
      rw [nI_1, hv_140]
      have e : (if y = 0 then ((galS (wC F.1 F.2 (nmR A.2) (se 0) (se 1) (se 2)) (wX F.1 F.2 (nmR A.2) (se 0) (se 1) (se 2)) (wN F.1 F.2 (nmR A.2) (se 0) (se 1) (se 2)) A.1 (decide (¬ (wst F.1 F.2 (nmR A.2) (se 0) (se 1) (se 2) A.1).2 < se 1)) seed t)).2.1 else ((galS (wC F.1 F.2 (nmR A.2) (se 0) (se 1) (se 2)) (wX F.1 F.2 (nmR A.2) (se 0) (se 1) (se 2)) (wN F.1 F.2 (nmR A.2) (se 0) (se 1) (se 2)) A.1 (decide (¬ (wst F.1 F.2 (nmR A.2) (se 0) (se 1) (se 2) A.1).2 < se 1)) seed t)).2.2) + (if y = 1 then wN F.1 F.2 (nmR A.2) (se 0) (se 1) (se 2) r else 0) + (if y = 0 ∧ b = true ∧ ¬ (wst F.1 F.2 (nmR A.2) (se 0) (se 1) (se 2) A.1).2 < se 1 then 1 else 0) = (if y = 0 then ((galS (wC F.1 F.2 (nmR A.2) (se 0) (se 1) (se 2)) (wX F.1 F.2 (nmR A.2) (se 0) (se 1) (se 2)) (wN F.1 F.2 (nmR A.2) (se 0) (se 1) (se 2)) A.1 (decide (¬ (wst F.1 F.2 (nmR A.2) (se 0) (se 1) (se 2) A.1).2 < se 1)) seed (t + 1))).2.1 else ((galS (wC F.1 F.2 (nmR A.2) (se 0) (se 1) (se 2)) (wX F.1 F.2 (nmR A.2) (se 0) (se 1) (se 2)) (wN F.1 F.2 (nmR A.2) (se 0) (se 1) (se 2)) A.1 (decide (¬ (wst F.1 F.2 (nmR A.2) (se 0) (se 1) (se 2) A.1).2 < se 1)) seed (t + 1))).2.2) := by
        rw [galS, hp]
        rcases hy with rfl | rfl
        · rw [if_pos rfl, if_neg (by decide), if_pos rfl, Int32.add_zero]
          by_cases q : b = true ∧ ¬ (wst F.1 F.2 (nmR A.2) (se 0) (se 1) (se 2) A.1).2 < se 1
          · rw [if_pos ⟨rfl, q⟩, if_pos ⟨hb.mp q.1, decide_eq_true q.2⟩]
          · rw [if_neg (fun h => q h.2), if_neg (fun h => q ⟨hb.mpr h.1, of_decide_eq_true h.2⟩), Int32.add_zero]
        · rw [if_neg (by decide), if_pos rfl, if_neg (fun h => absurd h.1 (by decide)), if_neg (by decide), Int32.add_zero]
      rw [e]
      have e2 : s = ((galS (wC F.1 F.2 (nmR A.2) (se 0) (se 1) (se 2)) (wX F.1 F.2 (nmR A.2) (se 0) (se 1) (se 2)) (wN F.1 F.2 (nmR A.2) (se 0) (se 1) (se 2)) A.1 (decide (¬ (wst F.1 F.2 (nmR A.2) (se 0) (se 1) (se 2) A.1).2 < se 1)) seed (t + 1))).1 := by rw [galS, hp]
      rw [e2]
      exact ih (t + 1) _ _ (by omega)
    generalize hb0 : (if y = 0 then ((galS (wC F.1 F.2 (nmR A.2) (se 0) (se 1) (se 2)) (wX F.1 F.2 (nmR A.2) (se 0) (se 1) (se 2)) (wN F.1 F.2 (nmR A.2) (se 0) (se 1) (se 2)) A.1 (decide (¬ (wst F.1 F.2 (nmR A.2) (se 0) (se 1) (se 2) A.1).2 < se 1)) seed t)).2.1 else ((galS (wC F.1 F.2 (nmR A.2) (se 0) (se 1) (se 2)) (wX F.1 F.2 (nmR A.2) (se 0) (se 1) (se 2)) (wN F.1 F.2 (nmR A.2) (se 0) (se 1) (se 2)) A.1 (decide (¬ (wst F.1 F.2 (nmR A.2) (se 0) (se 1) (se 2) A.1).2 < se 1)) seed t)).2.2) = b0 at after ⊢
    suffices inner : ∀ (d i : Nat) (s : Int32), i + d = A.1 → plI (wC F.1 F.2 (nmR A.2) (se 0) (se 1) (se 2)) (wX F.1 F.2 (nmR A.2) (se 0) (se 1) (se 2)) d i s = plI (wC F.1 F.2 (nmR A.2) (se 0) (se 1) (se 2)) (wX F.1 F.2 (nmR A.2) (se 0) (se 1) (se 2)) A.1 0 ((galS (wC F.1 F.2 (nmR A.2) (se 0) (se 1) (se 2)) (wX F.1 F.2 (nmR A.2) (se 0) (se 1) (se 2)) (wN F.1 F.2 (nmR A.2) (se 0) (se 1) (se 2)) A.1 (decide (¬ (wst F.1 F.2 (nmR A.2) (se 0) (se 1) (se 2) A.1).2 < se 1)) seed t)).1 → Go X0 MX12_gaolsOf (fun v w => v = some (.int (if y = 0 then ((galS (wC F.1 F.2 (nmR A.2) (se 0) (se 1) (se 2)) (wX F.1 F.2 (nmR A.2) (se 0) (se 1) (se 2)) (wN F.1 F.2 (nmR A.2) (se 0) (se 1) (se 2)) A.1 (decide (¬ (wst F.1 F.2 (nmR A.2) (se 0) (se 1) (se 2) A.1).2 < se 1)) seed n)).2.1 else ((galS (wC F.1 F.2 (nmR A.2) (se 0) (se 1) (se 2)) (wX F.1 F.2 (nmR A.2) (se 0) (se 1) (se 2)) (wN F.1 F.2 (nmR A.2) (se 0) (se 1) (se 2)) A.1 (decide (¬ (wst F.1 F.2 (nmR A.2) (se 0) (se 1) (se 2) A.1).2 < se 1)) seed n)).2.2)) ∧ ∃ s2 : Int32, w = (mwd U lt B F A se R O V al s2)) 21 0 0 23 [some (.ref 0), some (.int seed), some (.int (nI n)), some (.int y), some (.int (b0 + if y = 1 then wN F.1 F.2 (nmR A.2) (se 0) (se 1) (se 2) i else 0)), some (.int (nI t)), some (.int 1), some (.int (nI i))] [] (mwd U lt B F A se R O V al s) from (by
      have := inner A.1 0 ((galS (wC F.1 F.2 (nmR A.2) (se 0) (se 1) (se 2)) (wX F.1 F.2 (nmR A.2) (se 0) (se 1) (se 2)) (wN F.1 F.2 (nmR A.2) (se 0) (se 1) (se 2)) A.1 (decide (¬ (wst F.1 F.2 (nmR A.2) (se 0) (se 1) (se 2) A.1).2 < se 1)) seed t)).1 (by omega) rfl
      rw [show (b0 + if y = 1 then wN F.1 F.2 (nmR A.2) (se 0) (se 1) (se 2) 0 else 0) = b0 by rw [show wN F.1 F.2 (nmR A.2) (se 0) (se 1) (se 2) 0 = 0 from rfl, ite_self, Int32.add_zero]] at this
      exact this)
    intro d
    induction d with
    | zero =>
      intro i s hi hp
      refine go_iload dX12_gaolsOf_23 rfl ?_
      refine go_aload_n dX12_gaolsOf_25 rfl ?_
      refine go_getf fX12_118 dX12_gaolsOf_26 rfl rfl ?_
      refine go_icmp_ge 106 dX12_gaolsOf_29 (by decide) (fun _ => ?_) (fun c_29 => absurd (nI_le (by omega) (by omega)) c_29)
      exact after true i s _ (by omega) hp.symm (by simp; omega)
    | succ d ih2 =>
      intro i s hi hp
      refine go_iload dX12_gaolsOf_23 rfl ?_
      refine go_aload_n dX12_gaolsOf_25 rfl ?_
      refine go_getf fX12_118 dX12_gaolsOf_26 rfl rfl ?_
      refine go_icmp_ge 106 dX12_gaolsOf_29 (by decide) (fun c_29 => absurd c_29 (nI_ge (by omega) (by omega))) (fun _ => ?_)
      refine go_iload dX12_gaolsOf_32 rfl ?_
      refine go_if_eq 106 dX12_gaolsOf_34 (by decide) (fun c_34 => absurd c_34 (by decide)) (fun _ => ?_)
      refine go_aload_n dX12_gaolsOf_37 rfl ?_
      refine go_getf fX12_37 dX12_gaolsOf_38 rfl rfl ?_
      refine go_iload dX12_gaolsOf_41 rfl ?_
      refine go_iald dX12_gaolsOf_43 rfl (vp_in_nI (by omega) (by decide)) ?_
      simp only [nI_clamp (show i < 2 ^ 31 by omega)]
      rw [(hw i (by omega)).1]
      refine go_iconst (3) dX12_gaolsOf_44 (by decide) ?_
      refine go_icmp_ne 64 dX12_gaolsOf_45 (by decide) (fun c_45 => ?_) (fun c_45 => ?_)
      · refine go_iconst (1) dX12_gaolsOf_64 (by decide) ?_
        refine go_goto 69 dX12_gaolsOf_65 (by decide) ?_
        refine go_istore dX12_gaolsOf_69 (by decide) ?_
        refine go_iload dX12_gaolsOf_71 rfl ?_
        refine go_iload_n dX12_gaolsOf_73 rfl ?_
        refine go_iconst (1) dX12_gaolsOf_74 (by decide) ?_
        refine go_cut2 (J := 97) (fun v => v = if y = 1 ∧ (wC F.1 F.2 (nmR A.2) (se 0) (se 1) (se 2) i = 3 ∧ F.2 (5 * nmR A.2 i + 3) = 0) then 1 else 0) (fun v_97 hv_97 => ?_) (fun kk_97 => ?_)
        case refine_2 =>
          refine go_icmp_ne 96 dX12_gaolsOf_75 (by decide) (fun c_75 => ?_) (fun c_75 => ?_)
          · refine go_iconst (0) dX12_gaolsOf_96 (by decide) ?_
            exact kk_97 _ (by
              first
              | rw [if_neg (fun q => c_75 q.1)]
              | rw [if_neg (fun q => absurd c_89 (by rw [if_pos q.2]; decide))]
              | rw [if_pos ⟨c_75, Decidable.of_not_not fun q => c_89 (if_neg q)⟩])
          · refine go_iload dX12_gaolsOf_78 rfl ?_
            refine go_if_eq 96 dX12_gaolsOf_80 (by decide) (fun c_80 => absurd c_80 (by decide)) (fun _ => ?_)
            refine go_aload_n dX12_gaolsOf_83 rfl ?_
            refine go_iload dX12_gaolsOf_84 rfl ?_
            refine go_callVsi (z := MX12_isHarmed) dX12_gaolsOf_86 lX12_192 sX12_isHarmed (ev_X12_isHarmed U lt B F A se R O V al _ hA hR i (by omega)) rfl rfl rfl ⟨_, _, rfl⟩ rfl rfl ?_
            refine go_if_eq 96 dX12_gaolsOf_89 (by decide) (fun c_89 => ?_) (fun c_89 => ?_)
            · refine go_iconst (0) dX12_gaolsOf_96 (by decide) ?_
              exact kk_97 _ (by
                first
                | rw [if_neg (fun q => c_75 q.1)]
                | rw [if_neg (fun q => absurd c_89 (by rw [if_pos q.2]; decide))]
                | rw [if_pos ⟨c_75, Decidable.of_not_not fun q => c_89 (if_neg q)⟩])
            · refine go_iconst (1) dX12_gaolsOf_92 (by decide) ?_
              refine go_goto 97 dX12_gaolsOf_93 (by decide) ?_
              exact kk_97 _ (by
                first
                | rw [if_neg (fun q => c_75 q.1)]
                | rw [if_neg (fun q => absurd c_89 (by rw [if_pos q.2]; decide))]
                | rw [if_pos ⟨c_75, Decidable.of_not_not fun q => c_89 (if_neg q)⟩])
        refine go_iadd dX12_gaolsOf_97 ?_
        refine go_istore dX12_gaolsOf_98 (by decide) ?_
        refine go_iincN (1) dX12_gaolsOf_100 rfl (by decide) (by decide) ?_
        refine go_goto 23 dX12_gaolsOf_103 (by decide) ?_
        rw [nI_1, hv_97]
        have e : b0 + (if y = 1 then wN F.1 F.2 (nmR A.2) (se 0) (se 1) (se 2) i else 0) + (if y = 1 ∧ (wC F.1 F.2 (nmR A.2) (se 0) (se 1) (se 2) i = 3 ∧ F.2 (5 * nmR A.2 i + 3) = 0) then 1 else 0) = b0 + (if y = 1 then wN F.1 F.2 (nmR A.2) (se 0) (se 1) (se 2) (i + 1) else 0) := by
          rw [wN]
          by_cases q : y = 1
          · by_cases z : (wC F.1 F.2 (nmR A.2) (se 0) (se 1) (se 2) i = 3 ∧ F.2 (5 * nmR A.2 i + 3) = 0)
            · rw [if_pos q, if_pos q, if_pos ⟨q, z⟩, if_pos z, Int32.add_assoc]
            · rw [if_pos q, if_pos q, if_neg (fun h => z h.2), if_neg z, Int32.add_zero]
          · rw [if_neg q, if_neg q, if_neg (fun h => q h.1), Int32.add_zero]
        rw [e]
        first
        | (have z := Int32.not_le.mp c_61; exact ih2 (i + 1) (seedI s) (by omega) (by rw [← hp, pl_win c_45 z]))
        | exact ih2 (i + 1) s (by omega) (by rw [← hp, pl_go c_45])
      · refine go_aload_n dX12_gaolsOf_48 rfl ?_
        refine go_bipush (16) dX12_gaolsOf_49 (by decide) ?_
        refine go_callVsw (z := MX12_lot) dX12_gaolsOf_51 lX12_263 sX12_lot (ev_X12_lot U lt B F A se R O V al s) rfl rfl rfl ⟨_, _, rfl⟩ rfl rfl rfl ?_
        refine go_aload_n dX12_gaolsOf_54 rfl ?_
        refine go_getf fX12_40 dX12_gaolsOf_55 rfl rfl ?_
        refine go_iload dX12_gaolsOf_58 rfl ?_
        refine go_iald dX12_gaolsOf_60 rfl (vp_in_nI (by omega) (by decide)) ?_
        simp only [nI_clamp (show i < 2 ^ 31 by omega)]
        rw [(hw i (by omega)).2]
        refine go_icmp_ge 68 dX12_gaolsOf_61 (by decide) (fun c_61 => ?_) (fun c_61 => ?_)
        · refine go_iconst (0) dX12_gaolsOf_68 (by decide) ?_
          refine go_istore dX12_gaolsOf_69 (by decide) ?_
          refine go_iload dX12_gaolsOf_71 rfl ?_
          refine go_iload_n dX12_gaolsOf_73 rfl ?_
          refine go_iconst (1) dX12_gaolsOf_74 (by decide) ?_
          refine go_cut2 (J := 97) (fun v => v = (0 : Int32)) (fun v_97 hv_97 => ?_) (fun kk_97 => ?_)
          case refine_2 =>
            refine go_icmp_ne 96 dX12_gaolsOf_75 (by decide) (fun c_75 => ?_) (fun c_75 => ?_)
            · refine go_iconst (0) dX12_gaolsOf_96 (by decide) ?_
              exact kk_97 _ (by first | rfl | exact absurd rfl c_80)
            · refine go_iload dX12_gaolsOf_78 rfl ?_
              refine go_if_eq 96 dX12_gaolsOf_80 (by decide) (fun c_80 => ?_) (fun c_80 => ?_)
              · refine go_iconst (0) dX12_gaolsOf_96 (by decide) ?_
                exact kk_97 _ (by first | rfl | exact absurd rfl c_80)
              · refine go_aload_n dX12_gaolsOf_83 rfl ?_
                refine go_iload dX12_gaolsOf_84 rfl ?_
                refine go_callVsi (z := MX12_isHarmed) dX12_gaolsOf_86 lX12_192 sX12_isHarmed (ev_X12_isHarmed U lt B F A se R O V al _ hA hR i (by omega)) rfl rfl rfl ⟨_, _, rfl⟩ rfl rfl ?_
                refine go_if_eq 96 dX12_gaolsOf_89 (by decide) (fun c_89 => ?_) (fun c_89 => ?_)
                · refine go_iconst (0) dX12_gaolsOf_96 (by decide) ?_
                  exact kk_97 _ (by first | rfl | exact absurd rfl c_80)
                · refine go_iconst (1) dX12_gaolsOf_92 (by decide) ?_
                  refine go_goto 97 dX12_gaolsOf_93 (by decide) ?_
                  exact kk_97 _ (by first | rfl | exact absurd rfl c_80)
          refine go_iadd dX12_gaolsOf_97 ?_
          refine go_istore dX12_gaolsOf_98 (by decide) ?_
          refine go_iincN (1) dX12_gaolsOf_100 rfl (by decide) (by decide) ?_
          refine go_goto 23 dX12_gaolsOf_103 (by decide) ?_
          rw [nI_1, hv_97, Int32.add_zero]
          have e := pl_die (d := d) (s := s) c_45 (Int32.not_lt.mpr c_61)
          rw [hp] at e
          refine go_iload dX12_gaolsOf_23 rfl ?_
          refine go_aload_n dX12_gaolsOf_25 rfl ?_
          refine go_getf fX12_118 dX12_gaolsOf_26 rfl rfl ?_
          refine go_icmp_ge 106 dX12_gaolsOf_29 (by decide) (fun c_29 => ?_) (fun c_29 => ?_)
          · exact after false i (seedI s) _ (by omega) e (by simp; omega)
          · refine go_iload dX12_gaolsOf_32 rfl ?_
            refine go_if_eq 106 dX12_gaolsOf_34 (by decide) (fun _ => ?_) (fun c_34 => absurd (rfl) c_34)
            exact after false i (seedI s) _ (by omega) e (by simp; omega)
        · refine go_iconst (1) dX12_gaolsOf_64 (by decide) ?_
          refine go_goto 69 dX12_gaolsOf_65 (by decide) ?_
          refine go_istore dX12_gaolsOf_69 (by decide) ?_
          refine go_iload dX12_gaolsOf_71 rfl ?_
          refine go_iload_n dX12_gaolsOf_73 rfl ?_
          refine go_iconst (1) dX12_gaolsOf_74 (by decide) ?_
          refine go_cut2 (J := 97) (fun v => v = if y = 1 ∧ (wC F.1 F.2 (nmR A.2) (se 0) (se 1) (se 2) i = 3 ∧ F.2 (5 * nmR A.2 i + 3) = 0) then 1 else 0) (fun v_97 hv_97 => ?_) (fun kk_97 => ?_)
          case refine_2 =>
            refine go_icmp_ne 96 dX12_gaolsOf_75 (by decide) (fun c_75 => ?_) (fun c_75 => ?_)
            · refine go_iconst (0) dX12_gaolsOf_96 (by decide) ?_
              exact kk_97 _ (by
                first
                | rw [if_neg (fun q => c_75 q.1)]
                | rw [if_neg (fun q => absurd c_89 (by rw [if_pos q.2]; decide))]
                | rw [if_pos ⟨c_75, Decidable.of_not_not fun q => c_89 (if_neg q)⟩])
            · refine go_iload dX12_gaolsOf_78 rfl ?_
              refine go_if_eq 96 dX12_gaolsOf_80 (by decide) (fun c_80 => absurd c_80 (by decide)) (fun _ => ?_)
              refine go_aload_n dX12_gaolsOf_83 rfl ?_
              refine go_iload dX12_gaolsOf_84 rfl ?_
              refine go_callVsi (z := MX12_isHarmed) dX12_gaolsOf_86 lX12_192 sX12_isHarmed (ev_X12_isHarmed U lt B F A se R O V al _ hA hR i (by omega)) rfl rfl rfl ⟨_, _, rfl⟩ rfl rfl ?_
              refine go_if_eq 96 dX12_gaolsOf_89 (by decide) (fun c_89 => ?_) (fun c_89 => ?_)
              · refine go_iconst (0) dX12_gaolsOf_96 (by decide) ?_
                exact kk_97 _ (by
                  first
                  | rw [if_neg (fun q => c_75 q.1)]
                  | rw [if_neg (fun q => absurd c_89 (by rw [if_pos q.2]; decide))]
                  | rw [if_pos ⟨c_75, Decidable.of_not_not fun q => c_89 (if_neg q)⟩])
              · refine go_iconst (1) dX12_gaolsOf_92 (by decide) ?_
                refine go_goto 97 dX12_gaolsOf_93 (by decide) ?_
                exact kk_97 _ (by
                  first
                  | rw [if_neg (fun q => c_75 q.1)]
                  | rw [if_neg (fun q => absurd c_89 (by rw [if_pos q.2]; decide))]
                  | rw [if_pos ⟨c_75, Decidable.of_not_not fun q => c_89 (if_neg q)⟩])
          refine go_iadd dX12_gaolsOf_97 ?_
          refine go_istore dX12_gaolsOf_98 (by decide) ?_
          refine go_iincN (1) dX12_gaolsOf_100 rfl (by decide) (by decide) ?_
          refine go_goto 23 dX12_gaolsOf_103 (by decide) ?_
          rw [nI_1, hv_97]
          have e : b0 + (if y = 1 then wN F.1 F.2 (nmR A.2) (se 0) (se 1) (se 2) i else 0) + (if y = 1 ∧ (wC F.1 F.2 (nmR A.2) (se 0) (se 1) (se 2) i = 3 ∧ F.2 (5 * nmR A.2 i + 3) = 0) then 1 else 0) = b0 + (if y = 1 then wN F.1 F.2 (nmR A.2) (se 0) (se 1) (se 2) (i + 1) else 0) := by
            rw [wN]
            by_cases q : y = 1
            · by_cases z : (wC F.1 F.2 (nmR A.2) (se 0) (se 1) (se 2) i = 3 ∧ F.2 (5 * nmR A.2 i + 3) = 0)
              · rw [if_pos q, if_pos q, if_pos ⟨q, z⟩, if_pos z, Int32.add_assoc]
              · rw [if_pos q, if_pos q, if_neg (fun h => z h.2), if_neg z, Int32.add_zero]
            · rw [if_neg q, if_neg q, if_neg (fun h => q h.1), Int32.add_zero]
          rw [e]
          first
          | (have z := Int32.not_le.mp c_61; exact ih2 (i + 1) (seedI s) (by omega) (by rw [← hp, pl_win c_45 z]))
          | exact ih2 (i + 1) s (by omega) (by rw [← hp, pl_go c_45])
