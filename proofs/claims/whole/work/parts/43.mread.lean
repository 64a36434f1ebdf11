theorem SV_add (V : TX) (x y : Int32) : SV (V.1 + 1, upd (upd V.2 (2 * V.1) x) (2 * V.1 + 1) y) = ((SV V).1 + 1, upd (SV V).2.1 (SV V).1 x, upd (SV V).2.2 (SV V).1 y) := by
  unfold SV
  refine Prod.ext rfl (Prod.ext (funext fun k => ?_) (funext fun k => ?_))
  · show upd (upd V.2 (2 * V.1) x) (2 * V.1 + 1) y (2 * k) = upd (fun k => V.2 (2 * k)) V.1 x k
    rw [pk_un (by omega)]
    by_cases e : k = V.1
    · subst e; rw [pk_us, pk_us]
    · rw [pk_un (by omega), pk_un e]
  · show upd (upd V.2 (2 * V.1) x) (2 * V.1 + 1) y (2 * k + 1) = upd (fun k => V.2 (2 * k + 1)) V.1 y k
    by_cases e : k = V.1
    · subst e; rw [pk_us, pk_us]
    · rw [pk_un (by omega), pk_un (by omega), pk_un e]
theorem le7 (x : Int32) : 7 < x ↔ 8 ≤ x := (lt_pred (g := 8) (by decide) x)
theorem le4 (x : Int32) : 4 < x ↔ 5 ≤ x := (lt_pred (g := 5) (by decide) x)
theorem bad_iff (x y : Int32) : ((x < 0 ∨ 7 < x) ∨ (y < 0 ∨ 4 < y)) ↔ (x < 0 ∨ 8 ≤ x ∨ y < 0 ∨ 5 ≤ y) := by
  rw [le7, le4, or_assoc]
set_option maxRecDepth 100000 in
theorem ev_X12_read (U : TU) (lt : Int32) (B : TB2) (F A : TX) (se : AF) (R : TR) (O : TO) (V : TX) (al : AF) (dr : Int32) (s : Nat) (hs : s < 4) (z : Nat) (hz : z ≤ 60) (hU : U.2.1 s = nI z) (hV : V.1 ≤ 8) : Ev MX12_read [.ref 0, .int (nI s)] (mwd U lt B F A se R O V al dr) (fun v w => U.1 s < 0 ∧ v = some (.int (-11)) ∧ w = (mwd U 1 B F A se R O V al dr) ∨ ¬ U.1 s < 0 ∧ v = some (.int (nI (rdS (fun i => U.2.2.1 (60 * s + i)) z 31 0 (SV V)).1)) ∧ ∃ E : TX, w = (mwd U lt B F A se R O E al dr) ∧ SV E = (rdS (fun i => U.2.2.1 (60 * s + i)) z 31 0 (SV V)).2) := by
  refine ev_of bX12_read [some (.ref 0), some (.int (nI s)), none, none] (Nat.le_of_ble_eq_true rfl) rfl ?_
  refine go_iload_n dX12_read_0 rfl ?_
  refine go_callSi (z := MX12_isSheet) [] dX12_read_1 lX12_83 sX12_isSheet (ev_X12_isSheet _) rfl rfl rfl rfl rfl rfl ?_
  refine go_if_ne 10 dX12_read_4 (by decide) (fun _ => ?_) (fun c_4 => absurd c_4 (sht_f hs))
  refine go_aload_n dX12_read_10 rfl ?_
  refine go_getf fX12_7 dX12_read_11 rfl rfl ?_
  refine go_iload_n dX12_read_14 rfl ?_
  refine go_iald dX12_read_15 rfl (vp_in_nI (by omega) (by decide)) ?_
  simp only [nI_clamp (show s < 2 ^ 31 by omega)]
  refine go_if_ge 25 dX12_read_16 (by decide) (fun c_16 => ?_) (fun c_16 => ?_)
  · refine go_iconst (0) dX12_read_25 (by decide) ?_
    refine go_istore_n dX12_read_26 (by decide) ?_
    refine go_iconst (1) dX12_read_27 (by decide) ?_
    refine go_istore_n dX12_read_28 (by decide) ?_
    have done : ∀ (k : Nat) (E : TX), rdS (fun i => U.2.2.1 (60 * s + i)) z 31 0 (SV V) = (k, SV E) → Go X0 MX12_read (fun v w => U.1 s < 0 ∧ v = some (.int (-11)) ∧ w = (mwd U 1 B F A se R O V al dr) ∨ ¬ U.1 s < 0 ∧ v = some (.int (nI (rdS (fun i => U.2.2.1 (60 * s + i)) z 31 0 (SV V)).1)) ∧ ∃ E : TX, w = (mwd U lt B F A se R O E al dr) ∧ SV E = (rdS (fun i => U.2.2.1 (60 * s + i)) z 31 0 (SV V)).2) 21 0 0 29 [some (.ref 0), some (.int (nI s)), some (.int (nI k)), some (.int 0)] [] (mwd U lt B F A se R O E al dr) := by
      intro k E he
      refine go_iload_n dX12_read_29 rfl ?_
      refine go_if_eq 103 dX12_read_30 (by decide) (fun _ => ?_) (fun c_30 => absurd (rfl) c_30)
      refine go_iload_n dX12_read_103 rfl ?_
      refine go_ireturn dX12_read_104 rfl rfl (Nat.le_of_ble_eq_true rfl) (Nat.le_of_ble_eq_true rfl) ?_
      exact Or.inr ⟨Int32.not_lt.mpr c_16, by rw [he], E, rfl, by rw [he]⟩
    suffices loop : ∀ (d k : Nat) (E : TX), k + d = 31 → E.1 ≤ 8 → rdS (fun i => U.2.2.1 (60 * s + i)) z d k (SV E) = rdS (fun i => U.2.2.1 (60 * s + i)) z 31 0 (SV V) → Go X0 MX12_read (fun v w => U.1 s < 0 ∧ v = some (.int (-11)) ∧ w = (mwd U 1 B F A se R O V al dr) ∨ ¬ U.1 s < 0 ∧ v = some (.int (nI (rdS (fun i => U.2.2.1 (60 * s + i)) z 31 0 (SV V)).1)) ∧ ∃ E : TX, w = (mwd U lt B F A se R O E al dr) ∧ SV E = (rdS (fun i => U.2.2.1 (60 * s + i)) z 31 0 (SV V)).2) 21 0 0 29 [some (.ref 0), some (.int (nI s)), some (.int (nI k)), some (.int 1)] [] (mwd U lt B F A se R O E al dr) from loop 31 0 V (by omega) hV rfl
    intro d
    induction d with
    | zero =>
      intro k E hk hE he
      refine go_iload_n dX12_read_29 rfl ?_
      refine go_if_eq 103 dX12_read_30 (by decide) (fun c_30 => absurd c_30 (by decide)) (fun _ => ?_)
      refine go_iconst (2) dX12_read_33 (by decide) ?_
      refine go_iload_n dX12_read_34 rfl ?_
      refine go_imul dX12_read_35 ?_
      refine go_iconst (2) dX12_read_36 (by decide) ?_
      refine go_iadd dX12_read_37 ?_
      rw [show (2 : Int32) * nI k + 2 = nI (2 * k + 2) by rw [show (2 : Int32) = nI 2 from rfl, pk_mul, nI_add]]
      refine go_aload_n dX12_read_38 rfl ?_
      refine go_getf fX12_13 dX12_read_39 rfl rfl ?_
      refine go_iload_n dX12_read_42 rfl ?_
      refine go_iald dX12_read_43 rfl (vp_in_nI (by omega) (by decide)) ?_
      simp only [nI_clamp (show s < 2 ^ 31 by omega)]
      rw [hU]
      refine go_icmp_gt 103 dX12_read_44 (by decide) (fun _ => ?_) (fun c_44 => absurd (by first | exact nI_lt (by omega) (by omega)) c_44)
      refine go_iload_n dX12_read_103 rfl ?_
      refine go_ireturn dX12_read_104 rfl rfl (Nat.le_of_ble_eq_true rfl) (Nat.le_of_ble_eq_true rfl) ?_
      rw [rdS_end (Or.inl (by omega))] at he
      exact Or.inr ⟨Int32.not_lt.mpr c_16, by rw [← he], E, rfl, by rw [← he]⟩
    | succ d ih =>
      intro k E hk hE he
      refine go_iload_n dX12_read_29 rfl ?_
      refine go_if_eq 103 dX12_read_30 (by decide) (fun c_30 => absurd c_30 (by decide)) (fun _ => ?_)
      refine go_iconst (2) dX12_read_33 (by decide) ?_
      refine go_iload_n dX12_read_34 rfl ?_
      refine go_imul dX12_read_35 ?_
      refine go_iconst (2) dX12_read_36 (by decide) ?_
      refine go_iadd dX12_read_37 ?_
      rw [show (2 : Int32) * nI k + 2 = nI (2 * k + 2) by rw [show (2 : Int32) = nI 2 from rfl, pk_mul, nI_add]]
      refine go_aload_n dX12_read_38 rfl ?_
      refine go_getf fX12_13 dX12_read_39 rfl rfl ?_
      refine go_iload_n dX12_read_42 rfl ?_
      refine go_iald dX12_read_43 rfl (vp_in_nI (by omega) (by decide)) ?_
      simp only [nI_clamp (show s < 2 ^ 31 by omega)]
      rw [hU]
      refine go_icmp_gt 103 dX12_read_44 (by decide) (fun c_44 => ?_) (fun c_44 => ?_)
      · refine go_iload_n dX12_read_103 rfl ?_
        refine go_ireturn dX12_read_104 rfl rfl (Nat.le_of_ble_eq_true rfl) (Nat.le_of_ble_eq_true rfl) ?_
        rw [rdS_end (Or.inl (fun q => absurd c_44 (fun z2 => absurd ((nI_ltI (by omega) (by omega)).mp z2) (by omega))))] at he
        exact Or.inr ⟨Int32.not_lt.mpr c_16, by rw [← he], E, rfl, by rw [← he]⟩
      · have hkz : 2 * k + 1 < z := Nat.lt_of_not_le fun q => c_44 (nI_lt (by omega) (by omega))
        refine go_aload_n dX12_read_47 rfl ?_
        refine go_aload_n dX12_read_48 rfl ?_
        refine go_getf fX12_16 dX12_read_49 rfl rfl ?_
        refine go_bipush (60) dX12_read_52 (by decide) ?_
        refine go_iload_n dX12_read_54 rfl ?_
        refine go_imul dX12_read_55 ?_
        refine go_iconst (2) dX12_read_56 (by decide) ?_
        refine go_iload_n dX12_read_57 rfl ?_
        refine go_imul dX12_read_58 ?_
        refine go_iadd dX12_read_59 ?_
        rw [show (2 : Int32) * nI k = nI (2 * k) from pk_mul 2 k, sixty]
        refine go_iald dX12_read_60 rfl (vp_in_nI (by omega) (by decide)) ?_
        simp only [nI_clamp (show 60 * s + 2 * k < 2 ^ 31 by omega)]
        refine go_aload_n dX12_read_61 rfl ?_
        refine go_getf fX12_16 dX12_read_62 rfl rfl ?_
        refine go_bipush (60) dX12_read_65 (by decide) ?_
        refine go_iload_n dX12_read_67 rfl ?_
        refine go_imul dX12_read_68 ?_
        refine go_iconst (2) dX12_read_69 (by decide) ?_
        refine go_iload_n dX12_read_70 rfl ?_
        refine go_imul dX12_read_71 ?_
        refine go_iadd dX12_read_72 ?_
        refine go_iconst (1) dX12_read_73 (by decide) ?_
        refine go_iadd dX12_read_74 ?_
        rw [show (60 : Int32) * nI s + (2 : Int32) * nI k + 1 = nI (60 * s + (2 * k + 1)) by rw [show (2 : Int32) * nI k = nI (2 * k) from pk_mul 2 k, sixty, nI_1]; exact nI_e (by omega)]
        refine go_iald dX12_read_75 rfl (vp_in_nI (by omega) (by decide)) ?_
        simp only [nI_clamp (show 60 * s + (2 * k + 1) < 2 ^ 31 by omega)]
        refine go_callVs (z := MX12_seen) dX12_read_76 lX12_243 sX12_seen (ev_X12_seen U lt B F A se R O E al dr hE _ _) rfl rfl rfl ⟨_, _, rfl⟩ rfl rfl (fun v w1 h => by rcases h with ⟨-, -, rfl⟩ | ⟨-, -, -, rfl⟩ | ⟨-, -, -, rfl⟩ <;> rfl) (fun v_76 w_76 h_76 => ?_)
        rw [bad_iff] at h_76
        rcases h_76 with ⟨hb, rfl, rfl⟩ | ⟨hb, h8, rfl, rfl⟩ | ⟨hb, h8, rfl, rfl⟩
        · refine go_if_lt 86 dX12_read_79 (by decide) (fun _ => ?_) (fun c_79 => absurd (by decide) c_79)
          refine go_iconst (0) dX12_read_86 (by decide) ?_
          refine go_istore_n dX12_read_87 (by decide) ?_
          refine go_iload_n dX12_read_88 rfl ?_
          refine go_iload_n dX12_read_89 rfl ?_
          refine go_if_eq 97 dX12_read_90 (by decide) (fun _ => ?_) (fun c_90 => absurd (rfl) c_90)
          refine go_iconst (0) dX12_read_97 (by decide) ?_
          refine go_iadd dX12_read_98 ?_
          refine go_istore_n dX12_read_99 (by decide) ?_
          refine go_goto 29 dX12_read_100 (by decide) ?_
          rw [Int32.add_zero]
          exact done k E (by rw [← he]; exact rdS_end (Or.inr (Or.inl hb)))
        · refine go_if_lt 86 dX12_read_79 (by decide) (fun _ => ?_) (fun c_79 => absurd (by decide) c_79)
          refine go_iconst (0) dX12_read_86 (by decide) ?_
          refine go_istore_n dX12_read_87 (by decide) ?_
          refine go_iload_n dX12_read_88 rfl ?_
          refine go_iload_n dX12_read_89 rfl ?_
          refine go_if_eq 97 dX12_read_90 (by decide) (fun _ => ?_) (fun c_90 => absurd (rfl) c_90)
          refine go_iconst (0) dX12_read_97 (by decide) ?_
          refine go_iadd dX12_read_98 ?_
          refine go_istore_n dX12_read_99 (by decide) ?_
          refine go_goto 29 dX12_read_100 (by decide) ?_
          rw [Int32.add_zero]
          exact done k E (by rw [← he]; exact rdS_end (Or.inr (Or.inr (fun q => absurd (show E.1 < 8 from q) (by omega)))))
        · refine go_if_lt 86 dX12_read_79 (by decide) (fun c_79 => absurd c_79 (nI_nn (by omega))) (fun _ => ?_)
          refine go_iconst (1) dX12_read_82 (by decide) ?_
          refine go_goto 87 dX12_read_83 (by decide) ?_
          refine go_istore_n dX12_read_87 (by decide) ?_
          refine go_iload_n dX12_read_88 rfl ?_
          refine go_iload_n dX12_read_89 rfl ?_
          refine go_if_eq 97 dX12_read_90 (by decide) (fun c_90 => absurd c_90 (by decide)) (fun _ => ?_)
          refine go_iconst (1) dX12_read_93 (by decide) ?_
          refine go_goto 98 dX12_read_94 (by decide) ?_
          refine go_iadd dX12_read_98 ?_
          refine go_istore_n dX12_read_99 (by decide) ?_
          refine go_goto 29 dX12_read_100 (by decide) ?_
          rw [nI_1]
          refine ih (k + 1) _ (by omega) (by show E.1 + 1 ≤ 8; omega) ?_
          rw [SV_add, ← he]
          exact (rdS_on (fun q => q.elim (fun q => q hkz) (fun q => q.elim hb (fun q => q h8)))).symm
  · refine go_aload_n dX12_read_19 rfl ?_
    refine go_iconst (1) dX12_read_20 (by decide) ?_
    refine go_callVsw (z := MX12_finds) dX12_read_21 lX12_89 sX12_finds (ev_X12_finds U lt B F A se R O V al dr (1)) rfl rfl rfl ⟨_, _, rfl⟩ rfl rfl rfl ?_
    refine go_ireturn dX12_read_24 rfl rfl (Nat.le_of_ble_eq_true rfl) (Nat.le_of_ble_eq_true rfl) ?_
    exact Or.inl ⟨Int32.not_le.mp c_16, rfl, rfl⟩
