/-- what the model makes of a byte -/
def flV (j : Nat) (b : Int32) : Int32 := if fitN j b = true then (if j = 5 then 0 else prt j b) else -9
theorem fig9 (b : Int32) : (if b < 48 ∨ 48 + 9 < b then (-9 : Int32) else b - 48) = if decide (¬ b < 48 ∧ ¬ 57 < b) = true then b - 48 else -9 := by
  rw [show (48 : Int32) + 9 = 57 by decide]
  by_cases h : b < 48 <;> by_cases h2 : 57 < b <;> simp [h, h2]
theorem fig7 {b : Int32} (hb : ¬ b = 46) : (if b < 48 ∨ 48 + 7 < b then (-9 : Int32) else b - 48) = if decide ((¬ b < 48 ∧ b ≤ 55) ∨ b = 46) = true then (if b = 46 then -1 else b - 48) else -9 := by
  rw [show (48 : Int32) + 7 = 55 by decide, if_neg (c := b = 46) hb]
  by_cases h : b < 48
  · rw [if_pos (Or.inl h), if_neg]
    simp [h, hb]
  · by_cases h2 : 55 < b
    · rw [if_pos (Or.inr h2), if_neg]
      simp [h, hb]
      exact h2
    · rw [if_neg (fun q => q.elim h h2), if_pos]
      simp only [decide_eq_true_eq]
      exact Or.inl ⟨h, Int32.not_lt.mp h2⟩
theorem flV_ne {j : Nat} {b : Int32} (hj : j < 6) (h : fitN j b = true) : ¬ flV j b = -9 := by
  unfold flV
  rw [if_pos h]
  intro q
  have dg : ¬ b < 48 → ¬ 57 < b → ¬ b - 48 = -9 := fun h1 h2 e => by
    have : b = 39 := by
      have := congrArg (· + 48) e
      simpa using this
    subst this
    exact h1 (by decide)
  match j, hj with
  | 0, _ =>
    unfold fitN at h
    simp only [decide_eq_true_eq] at h
    rw [if_neg (by decide)] at q
    change kinI b = -9 at q
    unfold kinI at q
    repeat' split at q
    all_goals revert q; decide
  | 1, _ =>
    simp only [fitN, decide_eq_true_eq] at h
    rw [if_neg (by decide)] at q
    exact dg h.1 h.2 q
  | 2, _ =>
    simp only [fitN, decide_eq_true_eq] at h
    rw [if_neg (by decide)] at q
    exact dg h.1 h.2 q
  | 3, _ =>
    rw [if_neg (by decide)] at q
    change (if b = 103 then (1 : Int32) else 0) = -9 at q
    split at q <;> exact absurd q (by decide)
  | 4, _ =>
    simp only [fitN, decide_eq_true_eq] at h
    rw [if_neg (by decide)] at q
    change (if b = 46 then (-1 : Int32) else b - 48) = -9 at q
    split at q
    · exact absurd q (by decide)
    · rename_i h46
      have h1 := h.resolve_right h46
      exact dg h1.1 (fun z => absurd (Int32.lt_of_lt_of_le z h1.2) (by decide)) q
  | 5, _ =>
    rw [if_pos rfl] at q
    exact absurd q (by decide)
  | j + 6, hj => exact absurd hj (by omega)
theorem flV_f {j : Nat} {b : Int32} (h : ¬ fitN j b = true) : flV j b = -9 := if_neg h
theorem div6 {i : Nat} (h : i < 2 ^ 31) : nI i / 6 = nI (i / 6) := by
  apply Int32.toInt_inj.mp
  have e1 := nI_toInt h
  have e3 := nI_toInt (n := i / 6) (by omega)
  rw [lg_idiv_nonneg (by omega) (by decide), e1, e3, show ((6 : Int32)).toInt = 6 from rfl]
  rfl
def FInv (n : Nat) (b : Nat → Int32) (F : TX) : Prop := F.1 = gsz n b ∧ ∀ f k, f < F.1 → k < 5 → F.2 (5 * f + k) = prt k (b (6 * f + k))
def AInv (n : Nat) (b : Nat → Int32) (A : TX) : Prop := A.1 = nsz n b ∧ ∀ i, i < A.1 → A.2 i = b i - 97
theorem bad_s {b : Nat → Int32} {d i : Nat} (h : fitN (i % 6) (b i) = true) : bad b (d + 1) i = bad b d (i + 1) := if_pos h
theorem bad_x {b : Nat → Int32} {d i : Nat} (h : ¬ fitN (i % 6) (b i) = true) : bad b (d + 1) i = some i := if_neg h
theorem badN_s {b : Nat → Int32} {d i : Nat} (h : ¬ (b i < 97 ∨ 104 < b i)) : badN b (d + 1) i = badN b d (i + 1) := if_neg h
theorem badN_x {b : Nat → Int32} {d i : Nat} (h : b i < 97 ∨ 104 < b i) : badN b (d + 1) i = some i := if_pos h
theorem flt_some {n i : Nat} {b : Nat → Int32} (h : bad b n 0 = some i) (hn : n < 2 ^ 31) : fltI n b = nI i ∧ gsz n b = 0 := by
  have h1 : fltI n b = nI i := by unfold fltI; rw [h]
  have := bad_lt h
  exact ⟨h1, if_neg (by rw [h1]; exact nI_ne1 (by omega))⟩
theorem flt_end {n : Nat} {b : Nat → Int32} (h : bad b n 0 = none) (hn : n < 2 ^ 31) (h2 : ¬ (n = 0 ∨ n % 6 = 5)) : fltI n b = nI n ∧ gsz n b = 0 := by
  have h1 : fltI n b = nI n := by unfold fltI; rw [h]; exact if_neg h2
  exact ⟨h1, if_neg (by rw [h1]; exact nI_ne1 hn)⟩
theorem flt_ok {n : Nat} {b : Nat → Int32} (h : bad b n 0 = none) (h2 : n = 0 ∨ n % 6 = 5) : fltI n b = -1 ∧ gsz n b = (n + 1) / 6 := by
  have h1 : fltI n b = -1 := by unfold fltI; rw [h]; exact if_pos h2
  exact ⟨h1, if_pos h1⟩
set_option maxRecDepth 100000 in
theorem ev_X12_felonOf (b : Int32) (j : Nat) (hj : j < 6) : Ev MX12_felonOf [.int (nI j), .int b] [] (Ri [] (flV j b)) := by
  refine ev_of bX12_felonOf [some (.int (nI j)), some (.int b)] (Nat.le_of_ble_eq_true rfl) rfl ?_
  refine go_iload_n dX12_felonOf_0 rfl ?_
  match j, hj with
  | 0, _ =>
    refine go_tblIn 40 dX12_felonOf_1 (by decide) (by decide) rfl (by decide) ?_
    refine go_iload_n dX12_felonOf_40 rfl ?_
    refine go_bipush (102) dX12_felonOf_41 (by decide) ?_
    refine go_icmp_ne 50 dX12_felonOf_43 (by decide) (fun c_43 => ?_) (fun c_43 => ?_)
    · refine go_iload_n dX12_felonOf_50 rfl ?_
      refine go_bipush (99) dX12_felonOf_51 (by decide) ?_
      refine go_icmp_ne 60 dX12_felonOf_53 (by decide) (fun c_53 => ?_) (fun c_53 => ?_)
      · refine go_iload_n dX12_felonOf_60 rfl ?_
        refine go_bipush (114) dX12_felonOf_61 (by decide) ?_
        refine go_icmp_ne 70 dX12_felonOf_63 (by decide) (fun c_63 => ?_) (fun c_63 => ?_)
        · refine go_iload_n dX12_felonOf_70 rfl ?_
          refine go_bipush (100) dX12_felonOf_71 (by decide) ?_
          refine go_icmp_ne 80 dX12_felonOf_73 (by decide) (fun c_73 => ?_) (fun c_73 => ?_)
          · refine go_bipush (-9) dX12_felonOf_80 (by decide) ?_
            refine go_ireturn dX12_felonOf_82 rfl rfl (Nat.le_of_ble_eq_true rfl) (Nat.le_of_ble_eq_true rfl) ?_
            exact ⟨by simp_all [flV, fitN, prt, kinI], rfl⟩
          · refine go_iconst (3) dX12_felonOf_76 (by decide) ?_
            refine go_goto 82 dX12_felonOf_77 (by decide) ?_
            refine go_ireturn dX12_felonOf_82 rfl rfl (Nat.le_of_ble_eq_true rfl) (Nat.le_of_ble_eq_true rfl) ?_
            exact ⟨by simp_all [flV, fitN, prt, kinI], rfl⟩
        · refine go_iconst (2) dX12_felonOf_66 (by decide) ?_
          refine go_goto 82 dX12_felonOf_67 (by decide) ?_
          refine go_ireturn dX12_felonOf_82 rfl rfl (Nat.le_of_ble_eq_true rfl) (Nat.le_of_ble_eq_true rfl) ?_
          exact ⟨by simp_all [flV, fitN, prt, kinI], rfl⟩
      · refine go_iconst (1) dX12_felonOf_56 (by decide) ?_
        refine go_goto 82 dX12_felonOf_57 (by decide) ?_
        refine go_ireturn dX12_felonOf_82 rfl rfl (Nat.le_of_ble_eq_true rfl) (Nat.le_of_ble_eq_true rfl) ?_
        exact ⟨by simp_all [flV, fitN, prt, kinI], rfl⟩
    · refine go_iconst (0) dX12_felonOf_46 (by decide) ?_
      refine go_goto 82 dX12_felonOf_47 (by decide) ?_
      refine go_ireturn dX12_felonOf_82 rfl rfl (Nat.le_of_ble_eq_true rfl) (Nat.le_of_ble_eq_true rfl) ?_
      exact ⟨by simp_all [flV, fitN, prt, kinI], rfl⟩
  | 1, _ =>
    refine go_tblIn 136 dX12_felonOf_1 (by decide) (by decide) rfl (by decide) ?_
    refine go_iload_n dX12_felonOf_136 rfl ?_
    refine go_bipush (9) dX12_felonOf_137 (by decide) ?_
    refine go_callSi (z := MX12_figureOf) [] dX12_felonOf_139 lX12_109 sX12_figureOf (ev_X12_figureOf b 9) rfl rfl rfl rfl rfl rfl ?_
    refine go_ireturn dX12_felonOf_142 rfl rfl (Nat.le_of_ble_eq_true rfl) (Nat.le_of_ble_eq_true rfl) ?_
    exact ⟨congrArg (fun x => some (Value.int x)) (fig9 b), rfl⟩
  | 2, _ =>
    refine go_tblIn 136 dX12_felonOf_1 (by decide) (by decide) rfl (by decide) ?_
    refine go_iload_n dX12_felonOf_136 rfl ?_
    refine go_bipush (9) dX12_felonOf_137 (by decide) ?_
    refine go_callSi (z := MX12_figureOf) [] dX12_felonOf_139 lX12_109 sX12_figureOf (ev_X12_figureOf b 9) rfl rfl rfl rfl rfl rfl ?_
    refine go_ireturn dX12_felonOf_142 rfl rfl (Nat.le_of_ble_eq_true rfl) (Nat.le_of_ble_eq_true rfl) ?_
    exact ⟨congrArg (fun x => some (Value.int x)) (fig9 b), rfl⟩
  | 3, _ =>
    refine go_tblIn 83 dX12_felonOf_1 (by decide) (by decide) rfl (by decide) ?_
    refine go_iload_n dX12_felonOf_83 rfl ?_
    refine go_bipush (103) dX12_felonOf_84 (by decide) ?_
    refine go_icmp_ne 93 dX12_felonOf_86 (by decide) (fun c_86 => ?_) (fun c_86 => ?_)
    · refine go_iload_n dX12_felonOf_93 rfl ?_
      refine go_bipush (105) dX12_felonOf_94 (by decide) ?_
      refine go_icmp_ne 103 dX12_felonOf_96 (by decide) (fun c_96 => ?_) (fun c_96 => ?_)
      · refine go_bipush (-9) dX12_felonOf_103 (by decide) ?_
        refine go_ireturn dX12_felonOf_105 rfl rfl (Nat.le_of_ble_eq_true rfl) (Nat.le_of_ble_eq_true rfl) ?_
        exact ⟨by simp_all [flV, fitN, prt, kinI], rfl⟩
      · refine go_iconst (0) dX12_felonOf_99 (by decide) ?_
        refine go_goto 105 dX12_felonOf_100 (by decide) ?_
        refine go_ireturn dX12_felonOf_105 rfl rfl (Nat.le_of_ble_eq_true rfl) (Nat.le_of_ble_eq_true rfl) ?_
        exact ⟨by simp_all [flV, fitN, prt, kinI], rfl⟩
    · refine go_iconst (1) dX12_felonOf_89 (by decide) ?_
      refine go_goto 105 dX12_felonOf_90 (by decide) ?_
      refine go_ireturn dX12_felonOf_105 rfl rfl (Nat.le_of_ble_eq_true rfl) (Nat.le_of_ble_eq_true rfl) ?_
      exact ⟨by simp_all [flV, fitN, prt, kinI], rfl⟩
  | 4, _ =>
    refine go_tblIn 106 dX12_felonOf_1 (by decide) (by decide) rfl (by decide) ?_
    refine go_iload_n dX12_felonOf_106 rfl ?_
    refine go_bipush (46) dX12_felonOf_107 (by decide) ?_
    refine go_icmp_ne 116 dX12_felonOf_109 (by decide) (fun c_109 => ?_) (fun c_109 => ?_)
    · refine go_iload_n dX12_felonOf_116 rfl ?_
      refine go_bipush (7) dX12_felonOf_117 (by decide) ?_
      refine go_callSi (z := MX12_figureOf) [] dX12_felonOf_119 lX12_109 sX12_figureOf (ev_X12_figureOf b 7) rfl rfl rfl rfl rfl rfl ?_
      refine go_ireturn dX12_felonOf_122 rfl rfl (Nat.le_of_ble_eq_true rfl) (Nat.le_of_ble_eq_true rfl) ?_
      first | exact ⟨congrArg (fun x => some (Value.int x)) (fig7 c_109), rfl⟩ | exact ⟨by simp_all [flV, fitN, prt], rfl⟩
    · refine go_iconst (-1) dX12_felonOf_112 (by decide) ?_
      refine go_goto 122 dX12_felonOf_113 (by decide) ?_
      refine go_ireturn dX12_felonOf_122 rfl rfl (Nat.le_of_ble_eq_true rfl) (Nat.le_of_ble_eq_true rfl) ?_
      first | exact ⟨congrArg (fun x => some (Value.int x)) (fig7 c_109), rfl⟩ | exact ⟨by simp_all [flV, fitN, prt], rfl⟩
  | 5, _ =>
    refine go_tblIn 123 dX12_felonOf_1 (by decide) (by decide) rfl (by decide) ?_
    refine go_iload_n dX12_felonOf_123 rfl ?_
    refine go_bipush (59) dX12_felonOf_124 (by decide) ?_
    refine go_icmp_ne 133 dX12_felonOf_126 (by decide) (fun c_126 => ?_) (fun c_126 => ?_)
    · refine go_bipush (-9) dX12_felonOf_133 (by decide) ?_
      refine go_ireturn dX12_felonOf_135 rfl rfl (Nat.le_of_ble_eq_true rfl) (Nat.le_of_ble_eq_true rfl) ?_
      exact ⟨by simp_all [flV, fitN, prt, kinI], rfl⟩
    · refine go_iconst (0) dX12_felonOf_129 (by decide) ?_
      refine go_goto 135 dX12_felonOf_130 (by decide) ?_
      refine go_ireturn dX12_felonOf_135 rfl rfl (Nat.le_of_ble_eq_true rfl) (Nat.le_of_ble_eq_true rfl) ?_
      exact ⟨by simp_all [flV, fitN, prt, kinI], rfl⟩
  | j + 6, h => exact absurd h (by omega)
set_option maxRecDepth 100000 in
theorem ev_X12_isFelon (U : TU) (lt : Int32) (B : TB2) (F A : TX) (se : AF) (R : TR) (O : TO) (V : TX) (al : AF) (dr : Int32) (hF : F.1 ≤ 8) (x : Int32) : Ev MX12_isFelon [.ref 0, .int x] (mwd U lt B F A se R O V al dr) (Ri (mwd U lt B F A se R O V al dr) (if x < 0 ∨ nI F.1 ≤ x then 0 else 1)) := by
  refine ev_of bX12_isFelon [some (.ref 0), some (.int x)] (Nat.le_of_ble_eq_true rfl) rfl ?_
  refine go_iload_n dX12_isFelon_0 rfl ?_
  refine go_i2l dX12_isFelon_1 ?_
  refine go_lconst 0 dX12_isFelon_2 (by decide) ?_
  refine go_aload_n dX12_isFelon_3 rfl ?_
  refine go_getf fX12_112 dX12_isFelon_4 rfl rfl ?_
  refine go_iconst (1) dX12_isFelon_7 (by decide) ?_
  refine go_isub dX12_isFelon_8 ?_
  refine go_i2l dX12_isFelon_9 ?_
  refine go_callSi (z := MX12_in) [] dX12_isFelon_10 lX12_73 sX12_in (ev_X12_in (x) (0) (nI F.1 - 1) _ _ rfl rfl) rfl rfl rfl rfl rfl rfl ?_
  refine go_ireturn dX12_isFelon_13 rfl (nar_if _) (Nat.le_of_ble_eq_true rfl) (Nat.le_of_ble_eq_true rfl) ?_
  exact ⟨by simp only [lt_pred (show F.1 < 2 ^ 31 by omega)], rfl⟩
set_option maxRecDepth 100000 in
theorem ev_X12_readsFelons (U : TU) (lt : Int32) (B : TB2) (F A : TX) (se : AF) (R : TR) (O : TO) (V : TX) (al : AF) (dr : Int32) (n : Nat) (hn : n ≤ 47) (ht : B.2 0 = nI n) : Ev MX12_readsFelons [.ref 0] (mwd U lt B F A se R O V al dr) (fun v w => v = some (.int (fltI n B.1)) ∧ ∃ F2 : TX, w = (mwd U lt B F2 A se R O V al dr) ∧ FInv n B.1 F2) := by
  refine ev_of bX12_readsFelons [some (.ref 0), none, none, none, none] (Nat.le_of_ble_eq_true rfl) rfl ?_
  refine go_aload_n dX12_readsFelons_0 rfl ?_
  refine go_iconst (0) dX12_readsFelons_1 (by decide) ?_
  refine go_putf fX12_112 dX12_readsFelons_2 rfl (fun _ _ _ h => by cases h; rfl) (fun _ => rfl) (fun _ => rfl) (Nat.le_of_ble_eq_true rfl) ?_
  refine go_aload_n dX12_readsFelons_5 rfl ?_
  refine go_getf fX12_25 dX12_readsFelons_6 rfl rfl ?_
  refine go_iconst (0) dX12_readsFelons_9 (by decide) ?_
  refine go_iald dX12_readsFelons_10 rfl (vp_in_nI (n := 0) (by decide) (by decide)) ?_
  rw [show B.2 (0 : Int32).toNatClampNeg = nI n from ht]
  refine go_istore_n dX12_readsFelons_11 (by decide) ?_
  refine go_iconst (0) dX12_readsFelons_12 (by decide) ?_
  refine go_istore_n dX12_readsFelons_13 (by decide) ?_
  suffices loop : ∀ (d i : Nat) (fe : Nat → Int32) (x3 x4 : Option Value), i + d = n → bad B.1 (n - i) i = bad B.1 n 0 → (∀ j, j < i → j % 6 < 5 → fe (5 * (j / 6) + j % 6) = prt (j % 6) (B.1 j)) → Go X0 MX12_readsFelons (fun v w => v = some (.int (fltI n B.1)) ∧ ∃ F2 : TX, w = (mwd U lt B F2 A se R O V al dr) ∧ FInv n B.1 F2) 21 0 0 14 [some (.ref 0), some (.int (nI n)), some (.int (nI i)), x3, x4] [] (mwd U lt B ((i + 1) / 6, fe) A se R O V al dr) from loop n 0 F.2 _ _ (by omega) rfl (fun j h => absurd h (by omega))
  intro d
  induction d with
  | zero =>
    intro i fe x3 x4 hi hb hv
    obtain rfl : i = n := by omega
    rw [Nat.sub_self] at hb
    have hb2 : bad B.1 i 0 = none := hb.symm
    refine go_iload_n dX12_readsFelons_14 rfl ?_
    refine go_iload_n dX12_readsFelons_15 rfl ?_
    refine go_icmp_ge 95 dX12_readsFelons_16 (by decide) (fun _ => ?_) (fun c_16 => absurd (Int32.le_refl _) c_16)
    refine go_iload_n dX12_readsFelons_95 rfl ?_
    refine go_if_le 114 dX12_readsFelons_96 (by decide) (fun c_96 => ?_) (fun c_96 => ?_)
    · refine go_iconst (-1) dX12_readsFelons_114 (by decide) ?_
      refine go_ireturn dX12_readsFelons_115 rfl rfl (Nat.le_of_ble_eq_true rfl) (Nat.le_of_ble_eq_true rfl) ?_
      have q := flt_ok hb2 (by
        first
        | exact Or.inl (by have := (nI_leI (b := 0) (by omega) (by decide)).mp c_96; omega)
        | exact Or.inr ((nI_eq (b := 5) (by omega) (by decide)).mp c_104))
      refine ⟨by rw [q.1], ((i + 1) / 6, fe), rfl, q.2.symm, fun f k hf hk => ?_⟩
      have := hv (6 * f + k) (by dsimp only at hf; omega) (by omega)
      rwa [show (6 * f + k) / 6 = f by omega, show (6 * f + k) % 6 = k by omega] at this
    · refine go_iload_n dX12_readsFelons_99 rfl ?_
      refine go_bipush (6) dX12_readsFelons_100 (by decide) ?_
      refine go_irem dX12_readsFelons_102 (by decide) ?_
      rw [rem6 (by omega)]
      refine go_iconst (5) dX12_readsFelons_103 (by decide) ?_
      refine go_icmp_eq 114 dX12_readsFelons_104 (by decide) (fun c_104 => ?_) (fun c_104 => ?_)
      · refine go_iconst (-1) dX12_readsFelons_114 (by decide) ?_
        refine go_ireturn dX12_readsFelons_115 rfl rfl (Nat.le_of_ble_eq_true rfl) (Nat.le_of_ble_eq_true rfl) ?_
        have q := flt_ok hb2 (by
          first
          | exact Or.inl (by have := (nI_leI (b := 0) (by omega) (by decide)).mp c_96; omega)
          | exact Or.inr ((nI_eq (b := 5) (by omega) (by decide)).mp c_104))
        refine ⟨by rw [q.1], ((i + 1) / 6, fe), rfl, q.2.symm, fun f k hf hk => ?_⟩
        have := hv (6 * f + k) (by dsimp only at hf; omega) (by omega)
        rwa [show (6 * f + k) / 6 = f by omega, show (6 * f + k) % 6 = k by omega] at this
      · refine go_aload_n dX12_readsFelons_107 rfl ?_
        refine go_iconst (0) dX12_readsFelons_108 (by decide) ?_
        refine go_putf fX12_112 dX12_readsFelons_109 rfl (fun _ _ _ h => by cases h; rfl) (fun _ => rfl) (fun _ => rfl) (Nat.le_of_ble_eq_true rfl) ?_
        refine go_iload_n dX12_readsFelons_112 rfl ?_
        refine go_ireturn dX12_readsFelons_113 rfl rfl (Nat.le_of_ble_eq_true rfl) (Nat.le_of_ble_eq_true rfl) ?_
        have q := flt_end hb2 (by omega) (fun q => q.elim (fun q => c_96 (by rw [q]; decide)) (fun q => c_104 (by rw [q]; rfl)))
        exact ⟨by rw [q.1], (0, fe), rfl, q.2.symm, fun f k hf => absurd hf (Nat.not_lt_zero _)⟩
  | succ d ih =>
    intro i fe x3 x4 hi hb hv
    refine go_iload_n dX12_readsFelons_14 rfl ?_
    refine go_iload_n dX12_readsFelons_15 rfl ?_
    refine go_icmp_ge 95 dX12_readsFelons_16 (by decide) (fun c_16 => absurd c_16 (nI_ge (by omega) (by omega))) (fun _ => ?_)
    refine go_iload_n dX12_readsFelons_19 rfl ?_
    refine go_bipush (6) dX12_readsFelons_20 (by decide) ?_
    refine go_irem dX12_readsFelons_22 (by decide) ?_
    rw [rem6 (by omega)]
    refine go_istore_n dX12_readsFelons_23 (by decide) ?_
    refine go_iload_n dX12_readsFelons_24 rfl ?_
    refine go_aload_n dX12_readsFelons_25 rfl ?_
    refine go_getf fX12_22 dX12_readsFelons_26 rfl rfl ?_
    refine go_iload_n dX12_readsFelons_29 rfl ?_
    refine go_iald dX12_readsFelons_30 rfl (vp_in_nI (by omega) (by decide)) ?_
    simp only [nI_clamp (show i < 2 ^ 31 by omega)]
    refine go_callSi (z := MX12_felonOf) [] dX12_readsFelons_31 lX12_115 sX12_felonOf (ev_X12_felonOf (B.1 i) (i % 6) (by omega)) rfl rfl rfl rfl rfl rfl ?_
    refine go_istore dX12_readsFelons_34 (by decide) ?_
    refine go_iload dX12_readsFelons_36 rfl ?_
    refine go_bipush (-9) dX12_readsFelons_38 (by decide) ?_
    refine go_icmp_ne 50 dX12_readsFelons_40 (by decide) (fun c_40 => ?_) (fun c_40 => ?_)
    · have hfit : fitN (i % 6) (B.1 i) = true := by
        cases q : fitN (i % 6) (B.1 i) with
        | true => rfl
        | false => exact absurd (flV_f (by rw [q]; decide)) c_40
      rcases Nat.lt_or_ge (i % 6) 5 with h5 | h5
      · rw [show flV (i % 6) (B.1 i) = prt (i % 6) (B.1 i) by unfold flV; rw [if_pos hfit, if_neg (by omega)]]
        refine go_iload_n dX12_readsFelons_50 rfl ?_
        refine go_iconst (5) dX12_readsFelons_51 (by decide) ?_
        refine go_icmp_ge 70 dX12_readsFelons_52 (by decide) (fun c_52 => absurd c_52 (nI_ge (b := 5) h5 (by decide))) (fun _ => ?_)
        refine go_aload_n dX12_readsFelons_55 rfl ?_
        refine go_getf fX12_28 dX12_readsFelons_56 rfl rfl ?_
        refine go_iconst (5) dX12_readsFelons_59 (by decide) ?_
        refine go_iload_n dX12_readsFelons_60 rfl ?_
        refine go_bipush (6) dX12_readsFelons_61 (by decide) ?_
        refine go_idiv dX12_readsFelons_63 (by decide) ?_
        rw [div6 (by omega)]
        refine go_imul dX12_readsFelons_64 ?_
        refine go_iload_n dX12_readsFelons_65 rfl ?_
        refine go_iadd dX12_readsFelons_66 ?_
        rw [show (5 : Int32) * nI (i / 6) + nI (i % 6) = nI (5 * (i / 6) + i % 6) by rw [show (5 : Int32) = nI 5 from rfl, pk_mul, nI_add]]
        refine go_iload dX12_readsFelons_67 rfl ?_
        refine go_iast dX12_readsFelons_69 rfl (vp_in_nI (by omega) (by decide)) ?_
        refine go_aload_n dX12_readsFelons_70 rfl ?_
        refine go_dup dX12_readsFelons_71 rfl ?_
        refine go_getf fX12_112 dX12_readsFelons_72 rfl rfl ?_
        refine go_iload_n dX12_readsFelons_75 rfl ?_
        refine go_iconst (4) dX12_readsFelons_76 (by decide) ?_
        refine go_cut2 (J := 85) (fun v => v = if i % 6 = 4 then 1 else 0) (fun v_85 hv_85 => ?_) (fun kk_85 => ?_)
        case refine_2 =>
          refine go_icmp_ne 84 dX12_readsFelons_77 (by decide) (fun c_77 => ?_) (fun c_77 => ?_)
          · refine go_iconst (0) dX12_readsFelons_84 (by decide) ?_
            exact kk_85 _ (by first | rw [if_neg (fun q => c_77 (by rw [q]; rfl))] | rw [if_pos ((nI_eq (b := 4) (by omega) (by decide)).mp c_77)])
          · refine go_iconst (1) dX12_readsFelons_80 (by decide) ?_
            refine go_goto 85 dX12_readsFelons_81 (by decide) ?_
            exact kk_85 _ (by first | rw [if_neg (fun q => c_77 (by rw [q]; rfl))] | rw [if_pos ((nI_eq (b := 4) (by omega) (by decide)).mp c_77)])
        refine go_iadd dX12_readsFelons_85 ?_
        refine go_putf fX12_112 dX12_readsFelons_86 rfl (fun _ _ _ h => by cases h; rfl) (fun _ => rfl) (fun _ => rfl) (Nat.le_of_ble_eq_true rfl) ?_
        refine go_iincN (1) dX12_readsFelons_89 rfl (by decide) (by decide) ?_
        refine go_goto 14 dX12_readsFelons_92 (by decide) ?_
        simp only [nI_clamp (show 5 * (i / 6) + i % 6 < 2 ^ 31 by omega)]
        rw [hv_85, nI_1]
        rw [show (nI ((i + 1) / 6) + if i % 6 = 4 then (1 : Int32) else 0) = nI ((i + 1 + 1) / 6) by
          by_cases q : i % 6 = 4
          · rw [if_pos q, nI_1]; exact nI_e (by omega)
          · rw [if_neg q, Int32.add_zero]; exact nI_e (by omega)]
        have hb3 : bad B.1 (n - (i + 1)) (i + 1) = bad B.1 n 0 := by rw [← hb, show n - i = (n - (i + 1)) + 1 by omega, bad_s hfit]
        exact ih (i + 1) (upd fe (5 * (i / 6) + i % 6) (prt (i % 6) (B.1 i))) _ _ (by omega) hb3 (fun j hj hk => by
          by_cases e : j = i
          · subst e; exact pk_us
          · rw [pk_un (by omega)]; exact hv j (by omega) hk)
      ·
        refine go_iload_n dX12_readsFelons_50 rfl ?_
        refine go_iconst (5) dX12_readsFelons_51 (by decide) ?_
        refine go_icmp_ge 70 dX12_readsFelons_52 (by decide) (fun _ => ?_) (fun c_52 => absurd (nI_le (a := 5) h5 (by omega)) c_52)
        refine go_aload_n dX12_readsFelons_70 rfl ?_
        refine go_dup dX12_readsFelons_71 rfl ?_
        refine go_getf fX12_112 dX12_readsFelons_72 rfl rfl ?_
        refine go_iload_n dX12_readsFelons_75 rfl ?_
        refine go_iconst (4) dX12_readsFelons_76 (by decide) ?_
        refine go_cut2 (J := 85) (fun v => v = if i % 6 = 4 then 1 else 0) (fun v_85 hv_85 => ?_) (fun kk_85 => ?_)
        case refine_2 =>
          refine go_icmp_ne 84 dX12_readsFelons_77 (by decide) (fun c_77 => ?_) (fun c_77 => ?_)
          · refine go_iconst (0) dX12_readsFelons_84 (by decide) ?_
            exact kk_85 _ (by first | rw [if_neg (fun q => c_77 (by rw [q]; rfl))] | rw [if_pos ((nI_eq (b := 4) (by omega) (by decide)).mp c_77)])
          · refine go_iconst (1) dX12_readsFelons_80 (by decide) ?_
            refine go_goto 85 dX12_readsFelons_81 (by decide) ?_
            exact kk_85 _ (by first | rw [if_neg (fun q => c_77 (by rw [q]; rfl))] | rw [if_pos ((nI_eq (b := 4) (by omega) (by decide)).mp c_77)])
        refine go_iadd dX12_readsFelons_85 ?_
        refine go_putf fX12_112 dX12_readsFelons_86 rfl (fun _ _ _ h => by cases h; rfl) (fun _ => rfl) (fun _ => rfl) (Nat.le_of_ble_eq_true rfl) ?_
        refine go_iincN (1) dX12_readsFelons_89 rfl (by decide) (by decide) ?_
        refine go_goto 14 dX12_readsFelons_92 (by decide) ?_
        rw [hv_85, nI_1]
        rw [show (nI ((i + 1) / 6) + if i % 6 = 4 then (1 : Int32) else 0) = nI ((i + 1 + 1) / 6) by
          by_cases q : i % 6 = 4
          · rw [if_pos q, nI_1]; exact nI_e (by omega)
          · rw [if_neg q, Int32.add_zero]; exact nI_e (by omega)]
        have hb3 : bad B.1 (n - (i + 1)) (i + 1) = bad B.1 n 0 := by rw [← hb, show n - i = (n - (i + 1)) + 1 by omega, bad_s hfit]
        exact ih (i + 1) fe _ _ (by omega) hb3 (fun j hj hk => hv j (by have : j ≠ i := (fun e => by subst e; omega); omega) hk)
    · have hfit : ¬ fitN (i % 6) (B.1 i) = true := fun q => flV_ne (by omega) q c_40
      refine go_aload_n dX12_readsFelons_43 rfl ?_
      refine go_iconst (0) dX12_readsFelons_44 (by decide) ?_
      refine go_putf fX12_112 dX12_readsFelons_45 rfl (fun _ _ _ h => by cases h; rfl) (fun _ => rfl) (fun _ => rfl) (Nat.le_of_ble_eq_true rfl) ?_
      refine go_iload_n dX12_readsFelons_48 rfl ?_
      refine go_ireturn dX12_readsFelons_49 rfl rfl (Nat.le_of_ble_eq_true rfl) (Nat.le_of_ble_eq_true rfl) ?_
      have q := flt_some (i := i) (by rw [← hb, show n - i = (n - (i + 1)) + 1 by omega, bad_x hfit]) (by omega)
      exact ⟨by rw [q.1], (0, fe), rfl, q.2.symm, fun f k hf => absurd hf (Nat.not_lt_zero _)⟩
set_option maxRecDepth 100000 in
theorem ev_X12_readsNames (U : TU) (lt : Int32) (B : TB2) (F A : TX) (se : AF) (R : TR) (O : TO) (V : TX) (al : AF) (dr : Int32) (n : Nat) (hn : n ≤ 12) (ht : B.2 1 = nI n) : Ev MX12_readsNames [.ref 0] (mwd U lt B F A se R O V al dr) (fun v w => v = some (.int (nfl n (fun i => B.1 (48 + i)))) ∧ ∃ A2 : TX, w = (mwd U lt B F A2 se R O V al dr) ∧ AInv n (fun i => B.1 (48 + i)) A2) := by
  refine ev_of bX12_readsNames [some (.ref 0), none, none] (Nat.le_of_ble_eq_true rfl) rfl ?_
  refine go_aload_n dX12_readsNames_0 rfl ?_
  refine go_iconst (0) dX12_readsNames_1 (by decide) ?_
  refine go_putf fX12_118 dX12_readsNames_2 rfl (fun _ _ _ h => by cases h; rfl) (fun _ => rfl) (fun _ => rfl) (Nat.le_of_ble_eq_true rfl) ?_
  refine go_iconst (0) dX12_readsNames_5 (by decide) ?_
  refine go_istore_n dX12_readsNames_6 (by decide) ?_
  suffices loop : ∀ (d i : Nat) (na : Nat → Int32) (x2 : Option Value), i + d = n → badN (fun i => B.1 (48 + i)) (n - i) i = badN (fun i => B.1 (48 + i)) n 0 → (∀ j, j < i → na j = B.1 (48 + j) - 97) → Go X0 MX12_readsNames (fun v w => v = some (.int (nfl n (fun i => B.1 (48 + i)))) ∧ ∃ A2 : TX, w = (mwd U lt B F A2 se R O V al dr) ∧ AInv n (fun i => B.1 (48 + i)) A2) 21 0 0 7 [some (.ref 0), some (.int (nI i)), x2] [] (mwd U lt B F (i, na) se R O V al dr) from loop n 0 A.2 _ (by omega) rfl (fun j h => absurd h (by omega))
  intro d
  induction d with
  | zero =>
    intro i na x2 hi hb hv
    obtain rfl : i = n := by omega
    rw [Nat.sub_self] at hb
    have hb2 : badN (fun i => B.1 (48 + i)) i 0 = none := hb.symm
    refine go_iload_n dX12_readsNames_7 rfl ?_
    refine go_aload_n dX12_readsNames_8 rfl ?_
    refine go_getf fX12_25 dX12_readsNames_9 rfl rfl ?_
    refine go_iconst (1) dX12_readsNames_12 (by decide) ?_
    refine go_iald dX12_readsNames_13 rfl (vp_in_nI (n := 1) (by decide) (by decide)) ?_
    rw [show B.2 (1 : Int32).toNatClampNeg = nI i from ht]
    refine go_icmp_ge 74 dX12_readsNames_14 (by decide) (fun _ => ?_) (fun c_14 => absurd (Int32.le_refl _) c_14)
    refine go_iconst (-1) dX12_readsNames_74 (by decide) ?_
    refine go_ireturn dX12_readsNames_75 rfl rfl (Nat.le_of_ble_eq_true rfl) (Nat.le_of_ble_eq_true rfl) ?_
    exact ⟨by unfold nfl; rw [hb2], (i, na), rfl, by unfold nsz; rw [hb2], fun j hj => hv j hj⟩
  | succ d ih =>
    intro i na x2 hi hb hv
    refine go_iload_n dX12_readsNames_7 rfl ?_
    refine go_aload_n dX12_readsNames_8 rfl ?_
    refine go_getf fX12_25 dX12_readsNames_9 rfl rfl ?_
    refine go_iconst (1) dX12_readsNames_12 (by decide) ?_
    refine go_iald dX12_readsNames_13 rfl (vp_in_nI (n := 1) (by decide) (by decide)) ?_
    rw [show B.2 (1 : Int32).toNatClampNeg = nI n from ht]
    refine go_icmp_ge 74 dX12_readsNames_14 (by decide) (fun c_14 => absurd c_14 (nI_ge (by omega) (by omega))) (fun _ => ?_)
    refine go_aload_n dX12_readsNames_17 rfl ?_
    refine go_getf fX12_22 dX12_readsNames_18 rfl rfl ?_
    refine go_bipush (48) dX12_readsNames_21 (by decide) ?_
    refine go_iload_n dX12_readsNames_23 rfl ?_
    refine go_iadd dX12_readsNames_24 ?_
    rw [show (48 : Int32) + nI i = nI (48 + i) from nI_add 48 i]
    refine go_iald dX12_readsNames_25 rfl (vp_in_nI (by omega) (by decide)) ?_
    simp only [nI_clamp (show 48 + i < 2 ^ 31 by omega)]
    refine go_istore_n dX12_readsNames_26 (by decide) ?_
    refine go_iload_n dX12_readsNames_27 rfl ?_
    refine go_i2l dX12_readsNames_28 ?_
    refine go_ldc2_w dX12_readsNames_29 kX12_121 ?_
    refine go_ldc2_w dX12_readsNames_32 kX12_123 ?_
    refine go_callSi (z := MX12_in) [] dX12_readsNames_35 lX12_73 sX12_in (ev_X12_in (B.1 (48 + i)) (97) (104) _ _ rfl rfl) rfl rfl rfl rfl rfl rfl ?_
    refine go_if_ne 48 dX12_readsNames_38 (by decide) (fun c_38 => ?_) (fun c_38 => ?_)
    · refine go_aload_n dX12_readsNames_48 rfl ?_
      refine go_getf fX12_31 dX12_readsNames_49 rfl rfl ?_
      refine go_iload_n dX12_readsNames_52 rfl ?_
      refine go_iload_n dX12_readsNames_53 rfl ?_
      refine go_bipush (97) dX12_readsNames_54 (by decide) ?_
      refine go_isub dX12_readsNames_56 ?_
      refine go_iast dX12_readsNames_57 rfl (vp_in_nI (by omega) (by decide)) ?_
      refine go_aload_n dX12_readsNames_58 rfl ?_
      refine go_dup dX12_readsNames_59 rfl ?_
      refine go_getf fX12_118 dX12_readsNames_60 rfl rfl ?_
      refine go_iconst (1) dX12_readsNames_63 (by decide) ?_
      refine go_iadd dX12_readsNames_64 ?_
      refine go_putf fX12_118 dX12_readsNames_65 rfl (fun _ _ _ h => by cases h; rfl) (fun _ => rfl) (fun _ => rfl) (Nat.le_of_ble_eq_true rfl) ?_
      refine go_iincN (1) dX12_readsNames_68 rfl (by decide) (by decide) ?_
      refine go_goto 7 dX12_readsNames_71 (by decide) ?_
      rw [nI_1]
      simp only [nI_clamp (show i < 2 ^ 31 by omega)]
      refine ih (i + 1) (upd na i (B.1 (48 + i) - 97)) _ (by omega) ?_ (fun j hj => ?_)
      · rw [← hb, show n - i = (n - (i + 1)) + 1 by omega]; exact (badN_s (b := fun i => B.1 (48 + i)) (i := i) (full_t3 c_38)).symm
      · by_cases e : j = i
        · subst e; exact pk_us
        · rw [pk_un e]; exact hv j (by omega)
    · refine go_aload_n dX12_readsNames_41 rfl ?_
      refine go_iconst (0) dX12_readsNames_42 (by decide) ?_
      refine go_putf fX12_118 dX12_readsNames_43 rfl (fun _ _ _ h => by cases h; rfl) (fun _ => rfl) (fun _ => rfl) (Nat.le_of_ble_eq_true rfl) ?_
      refine go_iload_n dX12_readsNames_46 rfl ?_
      refine go_ireturn dX12_readsNames_47 rfl rfl (Nat.le_of_ble_eq_true rfl) (Nat.le_of_ble_eq_true rfl) ?_
      have q : badN (fun i => B.1 (48 + i)) n 0 = some i := by rw [← hb, show n - i = (n - (i + 1)) + 1 by omega]; exact badN_x (full_t2 c_38)
      exact ⟨by unfold nfl; rw [q], (0, na), rfl, by unfold nsz; rw [q], fun j hj => absurd hj (Nat.not_lt_zero _)⟩
