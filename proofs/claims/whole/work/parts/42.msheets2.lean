set_option maxRecDepth 100000 in
theorem ev_X12_sheet (U : TU) (lt : Int32) (B : TB2) (F A : TX) (se : AF) (R : TR) (O : TO) (V : TX) (al : AF) (dr : Int32) (s : Nat) (hs : s < 4) (g n : Int32) : Ev MX12_sheet [.ref 0, .int (nI s), .int g, .int n] (mwd U lt B F A se R O V al dr) (fun v w => ((g < 0 ∨ 2 < g) ∨ ¬ n ≤ 60) ∧ v = some (.int (-2)) ∧ w = (mwd U lt B F A se R O V al dr) ∨ ¬ ((g < 0 ∨ 2 < g) ∨ ¬ n ≤ 60) ∧ n < 0 ∧ v = some (.int (-15)) ∧ w = (mwd U 5 B F A se R O V al dr) ∨ ¬ ((g < 0 ∨ 2 < g) ∨ ¬ n ≤ 60) ∧ ¬ n < 0 ∧ v = some (.int n) ∧ ∃ it2 : AF, w = (mwd ((upd U.1 s g), (upd U.2.1 s n), it2, U.2.2.2) lt B F A se R O V al dr) ∧ (∀ i, i < n.toNatClampNeg → it2 (60 * s + i) = 0) ∧ ∀ j, (j < 60 * s ∨ 60 * s + 60 ≤ j) → it2 j = U.2.2.1 j) := by
  refine ev_of bX12_sheet [some (.ref 0), some (.int (nI s)), some (.int g), some (.int n), none] (Nat.le_of_ble_eq_true rfl) rfl ?_
  refine go_iload_n dX12_sheet_0 rfl ?_
  refine go_callSi (z := MX12_isSheet) [] dX12_sheet_1 lX12_83 sX12_isSheet (ev_X12_isSheet _) rfl rfl rfl rfl rfl rfl ?_
  refine go_if_eq 25 dX12_sheet_4 (by decide) (fun c_4 => absurd c_4 (sht_f hs)) (fun _ => ?_)
  refine go_iload_n dX12_sheet_7 rfl ?_
  refine go_i2l dX12_sheet_8 ?_
  refine go_lconst 0 dX12_sheet_9 (by decide) ?_
  refine go_ldc2_w dX12_sheet_10 kX12_87 ?_
  refine go_callSi (z := MX12_in) [] dX12_sheet_13 lX12_73 sX12_in (ev_X12_in (g) (0) (2) _ _ rfl rfl) rfl rfl rfl rfl rfl rfl ?_
  refine go_if_eq 25 dX12_sheet_16 (by decide) (fun c_16 => ?_) (fun c_16 => ?_)
  · refine go_bipush (-2) dX12_sheet_25 (by decide) ?_
    refine go_ireturn dX12_sheet_27 rfl rfl (Nat.le_of_ble_eq_true rfl) (Nat.le_of_ble_eq_true rfl) ?_
    exact Or.inl ⟨by first | exact Or.inl (full_t2 c_16) | exact Or.inr c_22, rfl, rfl⟩
  · refine go_iload_n dX12_sheet_19 rfl ?_
    refine go_bipush (60) dX12_sheet_20 (by decide) ?_
    refine go_icmp_le 28 dX12_sheet_22 (by decide) (fun c_22 => ?_) (fun c_22 => ?_)
    · refine go_iload_n dX12_sheet_28 rfl ?_
      refine go_if_ge 38 dX12_sheet_29 (by decide) (fun c_29 => ?_) (fun c_29 => ?_)
      · refine go_aload_n dX12_sheet_38 rfl ?_
        refine go_getf fX12_7 dX12_sheet_39 rfl rfl ?_
        refine go_iload_n dX12_sheet_42 rfl ?_
        refine go_iload_n dX12_sheet_43 rfl ?_
        refine go_iast dX12_sheet_44 rfl (vp_in_nI (by omega) (by decide)) ?_
        simp only [nI_clamp (show s < 2 ^ 31 by omega)]
        refine go_aload_n dX12_sheet_45 rfl ?_
        refine go_getf fX12_13 dX12_sheet_46 rfl rfl ?_
        refine go_iload_n dX12_sheet_49 rfl ?_
        refine go_iload_n dX12_sheet_50 rfl ?_
        refine go_iast dX12_sheet_51 rfl (vp_in_nI (by omega) (by decide)) ?_
        simp only [nI_clamp (show s < 2 ^ 31 by omega)]
        refine go_iconst (0) dX12_sheet_52 (by decide) ?_
        refine go_istore dX12_sheet_53 (by decide) ?_
        obtain ⟨hn1, hn2⟩ := in_range (x := n) (n := 61) (Int32.not_lt.mpr c_29) (fun q => absurd c_22 (Int32.not_le.mpr (show (60 : Int32) < n from lt_succ (n := 60) (by decide) q))) (by decide)
        suffices loop : ∀ (d i : Nat) (it : AF), i + d = n.toNatClampNeg → (∀ j, j < i → it (60 * s + j) = 0) → (∀ j, (j < 60 * s ∨ 60 * s + 60 ≤ j) → it j = U.2.2.1 j) → Go X0 MX12_sheet (fun v w => ((g < 0 ∨ 2 < g) ∨ ¬ n ≤ 60) ∧ v = some (.int (-2)) ∧ w = (mwd U lt B F A se R O V al dr) ∨ ¬ ((g < 0 ∨ 2 < g) ∨ ¬ n ≤ 60) ∧ n < 0 ∧ v = some (.int (-15)) ∧ w = (mwd U 5 B F A se R O V al dr) ∨ ¬ ((g < 0 ∨ 2 < g) ∨ ¬ n ≤ 60) ∧ ¬ n < 0 ∧ v = some (.int n) ∧ ∃ it2 : AF, w = (mwd ((upd U.1 s g), (upd U.2.1 s n), it2, U.2.2.2) lt B F A se R O V al dr) ∧ (∀ i, i < n.toNatClampNeg → it2 (60 * s + i) = 0) ∧ ∀ j, (j < 60 * s ∨ 60 * s + 60 ≤ j) → it2 j = U.2.2.1 j) 21 0 0 55 [some (.ref 0), some (.int (nI s)), some (.int g), some (.int n), some (.int (nI i))] [] (mwd ((upd U.1 s g), (upd U.2.1 s n), it, U.2.2.2) lt B F A se R O V al dr) from loop n.toNatClampNeg 0 U.2.2.1 (by omega) (fun j h => absurd h (by omega)) (fun j _ => rfl)
        intro d
        induction d with
        | zero =>
          intro i it hi h1 h2
          have hle : n ≤ nI i := by rw [show i = n.toNatClampNeg by omega, ← hn1]; exact Int32.le_refl _
          refine go_iload dX12_sheet_55 rfl ?_
          refine go_iload_n dX12_sheet_57 rfl ?_
          refine go_icmp_ge 80 dX12_sheet_58 (by decide) (fun _ => ?_) (fun c_58 => absurd (hle) c_58)
          refine go_iload_n dX12_sheet_80 rfl ?_
          refine go_ireturn dX12_sheet_81 rfl rfl (Nat.le_of_ble_eq_true rfl) (Nat.le_of_ble_eq_true rfl) ?_
          exact Or.inr (Or.inr ⟨fun q => q.elim (full_t3 c_16) (fun q => q c_22), Int32.not_lt.mpr c_29, rfl, it, rfl, fun j hj => h1 j (by omega), h2⟩)
        | succ d ih =>
          intro i it hi h1 h2
          have hlt : ¬ n ≤ nI i := by rw [hn1]; exact nI_ge (by omega) (by omega)
          refine go_iload dX12_sheet_55 rfl ?_
          refine go_iload_n dX12_sheet_57 rfl ?_
          refine go_icmp_ge 80 dX12_sheet_58 (by decide) (fun c_58 => absurd c_58 (hlt)) (fun _ => ?_)
          refine go_aload_n dX12_sheet_61 rfl ?_
          refine go_getf fX12_16 dX12_sheet_62 rfl rfl ?_
          refine go_bipush (60) dX12_sheet_65 (by decide) ?_
          refine go_iload_n dX12_sheet_67 rfl ?_
          refine go_imul dX12_sheet_68 ?_
          refine go_iload dX12_sheet_69 rfl ?_
          refine go_iadd dX12_sheet_71 ?_
          rw [sixty]
          refine go_iconst (0) dX12_sheet_72 (by decide) ?_
          refine go_iast dX12_sheet_73 rfl (vp_in_nI (by omega) (by decide)) ?_
          refine go_iincN (1) dX12_sheet_74 rfl (by decide) (by decide) ?_
          refine go_goto 55 dX12_sheet_77 (by decide) ?_
          rw [nI_1]
          simp only [nI_clamp (show 60 * s + i < 2 ^ 31 by omega)]
          exact ih (i + 1) (upd it (60 * s + i) 0) (by omega) (fun j hj => by
            by_cases e : j = i
            · subst e; exact pk_us
            · rw [pk_un (by omega)]; exact h1 j (by omega)) (fun j hj => by rw [pk_un (by omega)]; exact h2 j hj)
      · refine go_aload_n dX12_sheet_32 rfl ?_
        refine go_iconst (5) dX12_sheet_33 (by decide) ?_
        refine go_callVsw (z := MX12_finds) dX12_sheet_34 lX12_89 sX12_finds (ev_X12_finds U lt B F A se R O V al dr (5)) rfl rfl rfl ⟨_, _, rfl⟩ rfl rfl rfl ?_
        refine go_ireturn dX12_sheet_37 rfl rfl (Nat.le_of_ble_eq_true rfl) (Nat.le_of_ble_eq_true rfl) ?_
        exact Or.inr (Or.inl ⟨fun q => q.elim (full_t3 c_16) (fun q => q c_22), Int32.not_le.mp c_29, rfl, rfl⟩)
    · refine go_bipush (-2) dX12_sheet_25 (by decide) ?_
      refine go_ireturn dX12_sheet_27 rfl rfl (Nat.le_of_ble_eq_true rfl) (Nat.le_of_ble_eq_true rfl) ?_
      exact Or.inl ⟨by first | exact Or.inl (full_t2 c_16) | exact Or.inr c_22, rfl, rfl⟩
/-- what the model's writing lays -/
def wrI (o : Nat) (form : Int32) (cm f : Nat → Int32) : Nat → Nat → Int32
  | 0 => f
  | i + 1 => upd (wrI o form cm f i) (o + i) (cutI form (cm i))
theorem les_min {a b : Nat} (ha : a < 2 ^ 31) (hb : b < 2 ^ 31) : (if nI b ≤ nI a then nI b else nI a) = nI (min a b) := by
  by_cases h : b ≤ a
  · rw [if_pos (nI_le h ha), show min a b = b by omega]
  · rw [if_neg (fun q => h ((nI_leI hb ha).mp q)), show min a b = a by omega]
set_option maxRecDepth 100000 in
theorem ev_X12_write (U : TU) (lt : Int32) (B : TB2) (F A : TX) (se : AF) (R : TR) (O : TO) (V : TX) (al : AF) (dr : Int32) (s : Nat) (hs : s < 4) (z : Nat) (hz : z ≤ 60) (hU : U.2.1 s = nI z) (n m s0 gl br : Nat) (ok : MOK B se n m s0 gl br) : Ev MX12_write [.ref 0, .int (nI s)] (mwd U lt B F A se R O V al dr) (fun v w => U.1 s < 0 ∧ v = some (.int (-11)) ∧ w = (mwd U 1 B F A se R O V al dr) ∨ ¬ U.1 s < 0 ∧ ∃ (F2 A2 : TX) (R2 : TR), FInv n B.1 F2 ∧ AInv m (fun i => B.1 (48 + i)) A2 ∧ RI F2 A2 se R2 ∧ v = some (.int (nI (min z A2.1))) ∧ w = (mwd (U.1, U.2.1, (wrI (60 * s) (U.1 s) (wC F2.1 F2.2 (nmR A2.2) (se 0) (se 1) (se 2)) U.2.2.1 (min z A2.1)), U.2.2.2) lt B F2 A2 se R2 O V al dr)) := by
  refine ev_of bX12_write [some (.ref 0), some (.int (nI s)), none, none] (Nat.le_of_ble_eq_true rfl) rfl ?_
  refine go_iload_n dX12_write_0 rfl ?_
  refine go_callSi (z := MX12_isSheet) [] dX12_write_1 lX12_83 sX12_isSheet (ev_X12_isSheet _) rfl rfl rfl rfl rfl rfl ?_
  refine go_if_ne 10 dX12_write_4 (by decide) (fun _ => ?_) (fun c_4 => absurd c_4 (sht_f hs))
  refine go_aload_n dX12_write_10 rfl ?_
  refine go_getf fX12_7 dX12_write_11 rfl rfl ?_
  refine go_iload_n dX12_write_14 rfl ?_
  refine go_iald dX12_write_15 rfl (vp_in_nI (by omega) (by decide)) ?_
  simp only [nI_clamp (show s < 2 ^ 31 by omega)]
  refine go_if_ge 25 dX12_write_16 (by decide) (fun c_16 => ?_) (fun c_16 => ?_)
  · refine go_aload_n dX12_write_25 rfl ?_
    refine go_callVs (z := MX12_find) dX12_write_26 lX12_165 sX12_find (ev_X12_find U lt B F A se R O V al dr n m s0 gl br ok) rfl rfl rfl ⟨_, _, rfl⟩ rfl rfl (fun v w1 h => by obtain ⟨-, F2, A2, R2, rfl, -⟩ := h; rfl) (fun v_26 w_26 h_26 => ?_)
    obtain ⟨rfl, F2, A2, R2, rfl, g1, g2, g3⟩ := h_26
    have hA2 := (g2.ok ok.hm).1
    refine go_aload_n dX12_write_29 rfl ?_
    refine go_getf fX12_13 dX12_write_30 rfl rfl ?_
    refine go_iload_n dX12_write_33 rfl ?_
    refine go_iald dX12_write_34 rfl (vp_in_nI (by omega) (by decide)) ?_
    simp only [nI_clamp (show s < 2 ^ 31 by omega)]
    rw [hU]
    refine go_aload_n dX12_write_35 rfl ?_
    refine go_getf fX12_118 dX12_write_36 rfl rfl ?_
    refine go_callSi (z := MX12_lesser) [] dX12_write_39 lX12_146 sX12_lesser (ev_X12_lesser _ _) rfl rfl rfl rfl rfl rfl ?_
    rw [les_min (by omega) (by omega)]
    refine go_istore_n dX12_write_42 (by decide) ?_
    refine go_iconst (0) dX12_write_43 (by decide) ?_
    refine go_istore_n dX12_write_44 (by decide) ?_
    suffices loop : ∀ (d i : Nat), i + d = (min z A2.1) → Go X0 MX12_write (fun v w => U.1 s < 0 ∧ v = some (.int (-11)) ∧ w = (mwd U 1 B F A se R O V al dr) ∨ ¬ U.1 s < 0 ∧ ∃ (F2 A2 : TX) (R2 : TR), FInv n B.1 F2 ∧ AInv m (fun i => B.1 (48 + i)) A2 ∧ RI F2 A2 se R2 ∧ v = some (.int (nI (min z A2.1))) ∧ w = (mwd (U.1, U.2.1, (wrI (60 * s) (U.1 s) (wC F2.1 F2.2 (nmR A2.2) (se 0) (se 1) (se 2)) U.2.2.1 (min z A2.1)), U.2.2.2) lt B F2 A2 se R2 O V al dr)) 21 0 0 45 [some (.ref 0), some (.int (nI s)), some (.int (nI (min z A2.1))), some (.int (nI i))] [] (mwd (U.1, U.2.1, (wrI (60 * s) (U.1 s) (wC F2.1 F2.2 (nmR A2.2) (se 0) (se 1) (se 2)) U.2.2.1 i), U.2.2.2) lt B F2 A2 se R2 O V al dr) from loop (min z A2.1) 0 (by omega)
    intro d
    induction d with
    | zero =>
      intro i hi
      rw [show i = (min z A2.1) by omega]
      refine go_iload_n dX12_write_45 rfl ?_
      refine go_iload_n dX12_write_46 rfl ?_
      refine go_icmp_ge 82 dX12_write_47 (by decide) (fun _ => ?_) (fun c_47 => absurd (Int32.le_refl _) c_47)
      refine go_iload_n dX12_write_82 rfl ?_
      refine go_ireturn dX12_write_83 rfl rfl (Nat.le_of_ble_eq_true rfl) (Nat.le_of_ble_eq_true rfl) ?_
      exact Or.inr ⟨Int32.not_lt.mpr c_16, F2, A2, R2, g1, g2, g3, rfl, rfl⟩
    | succ d ih =>
      intro i hi
      refine go_iload_n dX12_write_45 rfl ?_
      refine go_iload_n dX12_write_46 rfl ?_
      refine go_icmp_ge 82 dX12_write_47 (by decide) (fun c_47 => absurd c_47 (nI_ge (by omega) (by omega))) (fun _ => ?_)
      refine go_aload_n dX12_write_50 rfl ?_
      refine go_getf fX12_16 dX12_write_51 rfl rfl ?_
      refine go_bipush (60) dX12_write_54 (by decide) ?_
      refine go_iload_n dX12_write_56 rfl ?_
      refine go_imul dX12_write_57 ?_
      refine go_iload_n dX12_write_58 rfl ?_
      refine go_iadd dX12_write_59 ?_
      rw [sixty]
      refine go_aload_n dX12_write_60 rfl ?_
      refine go_getf fX12_7 dX12_write_61 rfl rfl ?_
      refine go_iload_n dX12_write_64 rfl ?_
      refine go_iald dX12_write_65 rfl (vp_in_nI (by omega) (by decide)) ?_
      simp only [nI_clamp (show s < 2 ^ 31 by omega)]
      refine go_aload_n dX12_write_66 rfl ?_
      refine go_getf fX12_37 dX12_write_67 rfl rfl ?_
      refine go_iload_n dX12_write_70 rfl ?_
      refine go_iald dX12_write_71 rfl (vp_in_nI (by omega) (by decide)) ?_
      simp only [nI_clamp (show i < 2 ^ 31 by omega)]
      rw [(g3.1 i (by omega)).1]
      refine go_callSi (z := MX12_cut) [] dX12_write_72 lX12_97 sX12_cut (ev_X12_cut _ _) rfl rfl rfl rfl rfl rfl ?_
      refine go_iast dX12_write_75 rfl (vp_in_nI (by omega) (by decide)) ?_
      simp only [nI_clamp (show 60 * s + i < 2 ^ 31 by omega)]
      refine go_iincN (1) dX12_write_76 rfl (by decide) (by decide) ?_
      refine go_goto 45 dX12_write_79 (by decide) ?_
      rw [nI_1]
      exact ih (i + 1) (by omega)
  · refine go_aload_n dX12_write_19 rfl ?_
    refine go_iconst (1) dX12_write_20 (by decide) ?_
    refine go_callVsw (z := MX12_finds) dX12_write_21 lX12_89 sX12_finds (ev_X12_finds U lt B F A se R O V al dr (1)) rfl rfl rfl ⟨_, _, rfl⟩ rfl rfl rfl ?_
    refine go_ireturn dX12_write_24 rfl rfl (Nat.le_of_ble_eq_true rfl) (Nat.le_of_ble_eq_true rfl) ?_
    exact Or.inl ⟨Int32.not_le.mp c_16, rfl, rfl⟩
