theorem upd_same (f : Nat → Int32) (k : Nat) : upd f k (f k) = f := funext fun j => by
  by_cases h : j = k
  · subst h; exact pk_us
  · exact pk_un h
/-- the sightings, as the model keeps them -/
def SV (V : TX) : TS := (V.1, fun k => V.2 (2 * k), fun k => V.2 (2 * k + 1))
def VOK (V : TX) : Prop := V.1 ≤ 8 ∧ ∀ k, k < V.1 → ∃ j, j < 8 ∧ V.2 (2 * k) = nI j
theorem full8 {r f : Nat} (h : cnt8 (r &&& 255) = 8) (hf : f < 8) : r.testBit f = true := by
  cases q : r.testBit f with
  | true => rfl
  | false =>
    have h1 := cnt8_or (lv := 255) hf q
    have h2 := cnt8_le ((r ||| 2 ^ f) &&& 255)
    have h3 : (255 : Nat).testBit f = true := by
      have : ∀ f, f < 8 → (255 : Nat).testBit f = true := by decide
      exact this f hf
    rw [h, h3] at h1
    have : b2n true = 1 := rfl
    omega
theorem cnt_up {r f : Nat} (hf : f < 8) (q : r.testBit f = false) : cnt8 ((r ||| 2 ^ f) &&& 255) = cnt8 (r &&& 255) + 1 := by
  have h3 : (255 : Nat).testBit f = true := by
    have : ∀ f, f < 8 → (255 : Nat).testBit f = true := by decide
    exact this f hf
  rw [cnt8_or (lv := 255) hf q, h3]
  rfl
theorem okD_s {ft a b : Nat → Int32} {d i : Nat} (h : fateI ft (a i) = b i) : okD ft a b (d + 1) i = okD ft a b d (i + 1) := if_pos h
theorem okD_x {ft a b : Nat → Int32} {d i : Nat} (h : ¬ fateI ft (a i) = b i) : okD ft a b (d + 1) i = false := if_neg h
theorem fateI_nI {ft : Nat → Int32} {j : Nat} (h : j < 8) : fateI ft (nI j) = ft j := by
  unfold fateI
  rw [if_neg (fun q => q.elim (nI_nn (by omega)) (nI_ge (b := 8) h (by decide))), nI_clamp (by omega)]
set_option maxRecDepth 100000 in
theorem ev_X12_chainOf (U : TU) (lt : Int32) (B : TB2) (F A : TX) (se : AF) (R : TR) (O : TO) (V : TX) (al : AF) (dr : Int32) (hF : F.1 ≤ 8) (x : Int32) : Ev MX12_chainOf [.ref 0, .int x] (mwd U lt B F A se R O V al dr) (Ri (mwd U lt B F A se R O V al dr) (nI (chnN F.1 F.2 8 0 x))) := by
  refine ev_of bX12_chainOf [some (.ref 0), some (.int x), none, none] (Nat.le_of_ble_eq_true rfl) rfl ?_
  refine go_iconst (0) dX12_chainOf_0 (by decide) ?_
  refine go_istore_n dX12_chainOf_1 (by decide) ?_
  refine go_iload_n dX12_chainOf_2 rfl ?_
  refine go_istore_n dX12_chainOf_3 (by decide) ?_
  suffices loop : ∀ (d r : Nat) (a : Int32), cnt8 (r &&& 255) + d = 8 → r < 256 → chnN F.1 F.2 8 0 x = chnN F.1 F.2 d r a → Go X0 MX12_chainOf (Ri (mwd U lt B F A se R O V al dr) (nI (chnN F.1 F.2 8 0 x))) 21 0 0 4 [some (.ref 0), some (.int x), some (.int (nI r)), some (.int a)] [] (mwd U lt B F A se R O V al dr) from loop 8 0 x (by decide) (by decide) rfl
  intro d
  induction d with
  | zero =>
    intro r a hc hr he
    refine go_aload_n dX12_chainOf_4 rfl ?_
    refine go_iload_n dX12_chainOf_5 rfl ?_
    refine go_callVsi (z := MX12_isFelon) dX12_chainOf_6 lX12_132 sX12_isFelon (ev_X12_isFelon U lt B F A se R O V al dr hF a) rfl rfl rfl ⟨_, _, rfl⟩ rfl rfl ?_
    refine go_if_eq 58 dX12_chainOf_9 (by decide) (fun c_9 => ?_) (fun c_9 => ?_)
    · refine go_iload_n dX12_chainOf_58 rfl ?_
      refine go_ireturn dX12_chainOf_59 rfl rfl (Nat.le_of_ble_eq_true rfl) (Nat.le_of_ble_eq_true rfl) ?_
      exact ⟨by rw [he]; rfl, rfl⟩
    · obtain ⟨ha1, ha2⟩ := in_range (fun q => full_t3 c_9 (Or.inl q)) (fun q => full_t3 c_9 (Or.inr q)) (show F.1 < 2 ^ 31 by omega)
      generalize hja : a.toNatClampNeg = j at ha1 ha2
      subst ha1
      refine go_iload_n dX12_chainOf_12 rfl ?_
      refine go_iload_n dX12_chainOf_13 rfl ?_
      refine go_callSi (z := MX12_isIn) [] dX12_chainOf_14 lX12_149 sX12_isIn (ev_X12_isIn r j (by omega) (by omega)) rfl rfl rfl rfl rfl rfl ?_
      refine go_if_ne 58 dX12_chainOf_17 (by decide) (fun _ => ?_) (fun c_17 => absurd c_17 (by rw [if_pos (full8 (by omega) (by omega))]; decide))
      refine go_iload_n dX12_chainOf_58 rfl ?_
      refine go_ireturn dX12_chainOf_59 rfl rfl (Nat.le_of_ble_eq_true rfl) (Nat.le_of_ble_eq_true rfl) ?_
      exact ⟨by rw [he]; rfl, rfl⟩
  | succ d ih =>
    intro r a hc hr he
    replace he : chnN F.1 F.2 8 0 x = if a < 0 ∨ nI F.1 ≤ a then r else if r.testBit a.toNatClampNeg = true then r else chnN F.1 F.2 d (r ||| 2 ^ a.toNatClampNeg) (if F.2 (5 * a.toNatClampNeg + 3) = 1 then F.2 (5 * a.toNatClampNeg + 4) else -1) := he
    refine go_aload_n dX12_chainOf_4 rfl ?_
    refine go_iload_n dX12_chainOf_5 rfl ?_
    refine go_callVsi (z := MX12_isFelon) dX12_chainOf_6 lX12_132 sX12_isFelon (ev_X12_isFelon U lt B F A se R O V al dr hF a) rfl rfl rfl ⟨_, _, rfl⟩ rfl rfl ?_
    refine go_if_eq 58 dX12_chainOf_9 (by decide) (fun c_9 => ?_) (fun c_9 => ?_)
    · refine go_iload_n dX12_chainOf_58 rfl ?_
      refine go_ireturn dX12_chainOf_59 rfl rfl (Nat.le_of_ble_eq_true rfl) (Nat.le_of_ble_eq_true rfl) ?_
      first
      | exact ⟨by rw [he, if_pos (full_t2 c_9)], rfl⟩
      | exact ⟨by rw [he, if_pos (bit_f c_17)], rfl⟩
    · obtain ⟨ha1, ha2⟩ := in_range (fun q => full_t3 c_9 (Or.inl q)) (fun q => full_t3 c_9 (Or.inr q)) (show F.1 < 2 ^ 31 by omega)
      rw [if_neg (full_t3 c_9)] at he
      generalize hja : a.toNatClampNeg = j at he ha1 ha2
      subst ha1
      refine go_iload_n dX12_chainOf_12 rfl ?_
      refine go_iload_n dX12_chainOf_13 rfl ?_
      refine go_callSi (z := MX12_isIn) [] dX12_chainOf_14 lX12_149 sX12_isIn (ev_X12_isIn r j (by omega) (by omega)) rfl rfl rfl rfl rfl rfl ?_
      refine go_if_ne 58 dX12_chainOf_17 (by decide) (fun c_17 => ?_) (fun c_17 => ?_)
      · refine go_iload_n dX12_chainOf_58 rfl ?_
        refine go_ireturn dX12_chainOf_59 rfl rfl (Nat.le_of_ble_eq_true rfl) (Nat.le_of_ble_eq_true rfl) ?_
        first
        | exact ⟨by rw [he, if_pos (full_t2 c_9)], rfl⟩
        | exact ⟨by rw [he, if_pos (bit_f c_17)], rfl⟩
      · refine go_iload_n dX12_chainOf_20 rfl ?_
        refine go_iconst (1) dX12_chainOf_21 (by decide) ?_
        refine go_iload_n dX12_chainOf_22 rfl ?_
        refine go_ishl dX12_chainOf_23 ?_
        rw [sh1 j (by omega)]
        refine go_ior dX12_chainOf_24 ?_
        rw [fa_or]
        refine go_istore_n dX12_chainOf_25 (by decide) ?_
        refine go_aload_n dX12_chainOf_26 rfl ?_
        refine go_getf fX12_28 dX12_chainOf_27 rfl rfl ?_
        refine go_iconst (5) dX12_chainOf_30 (by decide) ?_
        refine go_iload_n dX12_chainOf_31 rfl ?_
        refine go_imul dX12_chainOf_32 ?_
        refine go_iconst (3) dX12_chainOf_33 (by decide) ?_
        refine go_iadd dX12_chainOf_34 ?_
        rw [show (5 : Int32) * nI j + 3 = nI (5 * j + 3) from five j 3]
        refine go_iald dX12_chainOf_35 rfl (vp_in_nI (by omega) (by decide)) ?_
        simp only [nI_clamp (show 5 * j + 3 < 2 ^ 31 by omega)]
        refine go_iconst (1) dX12_chainOf_36 (by decide) ?_
        refine go_cut2 (J := 54) (fun v => v = if F.2 (5 * j + 3) = 1 then F.2 (5 * j + 4) else -1) (fun v_54 hv_54 => ?_) (fun kk_54 => ?_)
        case refine_2 =>
          refine go_icmp_ne 53 dX12_chainOf_37 (by decide) (fun c_37 => ?_) (fun c_37 => ?_)
          · refine go_iconst (-1) dX12_chainOf_53 (by decide) ?_
            exact kk_54 _ (by simp [c_37])
          · refine go_aload_n dX12_chainOf_40 rfl ?_
            refine go_getf fX12_28 dX12_chainOf_41 rfl rfl ?_
            refine go_iconst (5) dX12_chainOf_44 (by decide) ?_
            refine go_iload_n dX12_chainOf_45 rfl ?_
            refine go_imul dX12_chainOf_46 ?_
            refine go_iconst (4) dX12_chainOf_47 (by decide) ?_
            refine go_iadd dX12_chainOf_48 ?_
            rw [show (5 : Int32) * nI j + 4 = nI (5 * j + 4) from five j 4]
            refine go_iald dX12_chainOf_49 rfl (vp_in_nI (by omega) (by decide)) ?_
            simp only [nI_clamp (show 5 * j + 4 < 2 ^ 31 by omega)]
            refine go_goto 54 dX12_chainOf_50 (by decide) ?_
            exact kk_54 _ (by simp [c_37])
        subst hv_54
        refine go_istore_n dX12_chainOf_54 (by decide) ?_
        refine go_goto 4 dX12_chainOf_55 (by decide) ?_
        exact ih (r ||| 2 ^ j) _ (by rw [cnt_up (by omega) (bit_t c_17)]; omega) (or_lt (g := 8) hr (by omega)) (by rw [he, if_neg (by rw [bit_t c_17]; decide)])
set_option maxRecDepth 100000 in
theorem ev_X12_isSeen (U : TU) (lt : Int32) (B : TB2) (F A : TX) (se : AF) (R : TR) (O : TO) (V : TX) (al : AF) (dr : Int32) (hF : F.1 ≤ 8) (hA : AOK A) (s0 : Nat) (h9 : s0 ≤ 9) (h0 : se 0 = nI s0) (hV : VOK V) : Ev MX12_isSeen [.ref 0] (mwd U lt B F A se R O V al dr) (fun v w => v = some (.int (if seenB F.1 F.2 (nmR A.2) (se 0) (se 1) (se 2) A.1 (SV V) = true then 1 else 0)) ∧ ∃ R2 : TR, w = (mwd U lt B F A se R2 O V al dr) ∧ RI F A se R2) := by
  refine ev_of bX12_isSeen [some (.ref 0), none, none] (Nat.le_of_ble_eq_true rfl) rfl ?_
  have hV1 := hV.1
  refine go_aload_n dX12_isSeen_0 rfl ?_
  refine go_callVs (z := MX12_goes) dX12_isSeen_1 lX12_162 sX12_goes (ev_X12_goes U lt B F A se R O V al dr hF hA s0 h9 h0) rfl rfl rfl ⟨_, _, rfl⟩ rfl rfl (fun v w1 h => by obtain ⟨-, F2, rfl, -⟩ := h; rfl) (fun v_1 w_1 h_1 => ?_)
  obtain ⟨rfl, R2, rfl, hR⟩ := h_1
  refine go_iconst (1) dX12_isSeen_4 (by decide) ?_
  refine go_istore_n dX12_isSeen_5 (by decide) ?_
  refine go_iconst (0) dX12_isSeen_6 (by decide) ?_
  refine go_istore_n dX12_isSeen_7 (by decide) ?_
  suffices loop : ∀ (d k : Nat) (b : Bool), k + d = V.1 → (if b = true then okD (wF F.1 F.2 (nmR A.2) (se 0) (se 1) (se 2) A.1) (SV V).2.1 (SV V).2.2 d k else false) = seenB F.1 F.2 (nmR A.2) (se 0) (se 1) (se 2) A.1 (SV V) → Go X0 MX12_isSeen (fun v w => v = some (.int (if seenB F.1 F.2 (nmR A.2) (se 0) (se 1) (se 2) A.1 (SV V) = true then 1 else 0)) ∧ ∃ R2 : TR, w = (mwd U lt B F A se R2 O V al dr) ∧ RI F A se R2) 21 0 0 8 [some (.ref 0), some (.int (if b = true then 1 else 0)), some (.int (nI k))] [] (mwd U lt B F A se R2 O V al dr) from loop V.1 0 true (by omega) rfl
  intro d
  induction d with
  | zero =>
    intro k b hk he
    rw [show k = V.1 by omega]
    refine go_iload_n dX12_isSeen_8 rfl ?_
    refine go_aload_n dX12_isSeen_9 rfl ?_
    refine go_getf fX12_240 dX12_isSeen_10 rfl rfl ?_
    refine go_icmp_ge 57 dX12_isSeen_13 (by decide) (fun _ => ?_) (fun c_13 => absurd (Int32.le_refl _) c_13)
    refine go_iload_n dX12_isSeen_57 rfl ?_
    refine go_ireturn dX12_isSeen_58 rfl (by cases b <;> rfl) (Nat.le_of_ble_eq_true rfl) (Nat.le_of_ble_eq_true rfl) ?_
    refine ⟨?_, R2, rfl, hR⟩
    rw [← he]
    cases b <;> rfl
  | succ d ih =>
    intro k b hk he
    obtain ⟨j, hj, ej⟩ := hV.2 k (by omega)
    cases b with
    | false =>
      refine go_iload_n dX12_isSeen_8 rfl ?_
      refine go_aload_n dX12_isSeen_9 rfl ?_
      refine go_getf fX12_240 dX12_isSeen_10 rfl rfl ?_
      refine go_icmp_ge 57 dX12_isSeen_13 (by decide) (fun c_13 => absurd c_13 (nI_ge (by omega) (by omega))) (fun _ => ?_)
      refine go_iload_n dX12_isSeen_16 rfl ?_
      refine go_if_eq 49 dX12_isSeen_17 (by decide) (fun _ => ?_) (fun c_17 => absurd (rfl) c_17)
      refine go_iconst (0) dX12_isSeen_49 (by decide) ?_
      refine go_istore_n dX12_isSeen_50 (by decide) ?_
      refine go_iincN (1) dX12_isSeen_51 rfl (by decide) (by decide) ?_
      refine go_goto 8 dX12_isSeen_54 (by decide) ?_
      rw [nI_1]
      exact ih (k + 1) false (by omega) he
    | true =>
      refine go_iload_n dX12_isSeen_8 rfl ?_
      refine go_aload_n dX12_isSeen_9 rfl ?_
      refine go_getf fX12_240 dX12_isSeen_10 rfl rfl ?_
      refine go_icmp_ge 57 dX12_isSeen_13 (by decide) (fun c_13 => absurd c_13 (nI_ge (by omega) (by omega))) (fun _ => ?_)
      refine go_iload_n dX12_isSeen_16 rfl ?_
      refine go_if_eq 49 dX12_isSeen_17 (by decide) (fun c_17 => absurd c_17 (by decide)) (fun _ => ?_)
      refine go_aload_n dX12_isSeen_20 rfl ?_
      refine go_aload_n dX12_isSeen_21 rfl ?_
      refine go_getf fX12_65 dX12_isSeen_22 rfl rfl ?_
      refine go_iconst (2) dX12_isSeen_25 (by decide) ?_
      refine go_iload_n dX12_isSeen_26 rfl ?_
      refine go_imul dX12_isSeen_27 ?_
      rw [show (2 : Int32) * nI k = nI (2 * k) from pk_mul 2 k]
      refine go_iald dX12_isSeen_28 rfl (vp_in_nI (by omega) (by decide)) ?_
      simp only [nI_clamp (show 2 * k < 2 ^ 31 by omega)]
      rw [ej]
      refine go_callVsi (z := MX12_fateOf) dX12_isSeen_29 lX12_201 sX12_fateOf (ev_X12_fateOf U lt B F A se R2 O V al dr hA hR j hj) rfl rfl rfl ⟨_, _, rfl⟩ rfl rfl ?_
      refine go_aload_n dX12_isSeen_32 rfl ?_
      refine go_getf fX12_65 dX12_isSeen_33 rfl rfl ?_
      refine go_iconst (2) dX12_isSeen_36 (by decide) ?_
      refine go_iload_n dX12_isSeen_37 rfl ?_
      refine go_imul dX12_isSeen_38 ?_
      refine go_iconst (1) dX12_isSeen_39 (by decide) ?_
      refine go_iadd dX12_isSeen_40 ?_
      rw [show (2 : Int32) * nI k + 1 = nI (2 * k + 1) by rw [show (2 : Int32) = nI 2 from rfl, pk_mul, nI_1]]
      refine go_iald dX12_isSeen_41 rfl (vp_in_nI (by omega) (by decide)) ?_
      simp only [nI_clamp (show 2 * k + 1 < 2 ^ 31 by omega)]
      refine go_icmp_ne 49 dX12_isSeen_42 (by decide) (fun c_42 => ?_) (fun c_42 => ?_)
      · refine go_iconst (0) dX12_isSeen_49 (by decide) ?_
        refine go_istore_n dX12_isSeen_50 (by decide) ?_
        refine go_iincN (1) dX12_isSeen_51 rfl (by decide) (by decide) ?_
        refine go_goto 8 dX12_isSeen_54 (by decide) ?_
        rw [nI_1]
        have ef : fateI (wF F.1 F.2 (nmR A.2) (se 0) (se 1) (se 2) A.1) ((SV V).2.1 k) = wF F.1 F.2 (nmR A.2) (se 0) (se 1) (se 2) A.1 j := by rw [show (SV V).2.1 k = nI j from ej, fateI_nI hj]
        first
        | exact ih (k + 1) false (by omega) (by rw [← he, if_pos rfl, okD_x (by rw [ef]; exact c_42)]; rfl)
        | exact ih (k + 1) true (by omega) (by rw [← he, if_pos rfl, if_pos rfl, okD_s (by rw [ef]; exact c_42)])
      · refine go_iconst (1) dX12_isSeen_45 (by decide) ?_
        refine go_goto 50 dX12_isSeen_46 (by decide) ?_
        refine go_istore_n dX12_isSeen_50 (by decide) ?_
        refine go_iincN (1) dX12_isSeen_51 rfl (by decide) (by decide) ?_
        refine go_goto 8 dX12_isSeen_54 (by decide) ?_
        rw [nI_1]
        have ef : fateI (wF F.1 F.2 (nmR A.2) (se 0) (se 1) (se 2) A.1) ((SV V).2.1 k) = wF F.1 F.2 (nmR A.2) (se 0) (se 1) (se 2) A.1 j := by rw [show (SV V).2.1 k = nI j from ej, fateI_nI hj]
        first
        | exact ih (k + 1) false (by omega) (by rw [← he, if_pos rfl, okD_x (by rw [ef]; exact c_42)]; rfl)
        | exact ih (k + 1) true (by omega) (by rw [← he, if_pos rfl, if_pos rfl, okD_s (by rw [ef]; exact c_42)])
set_option maxRecDepth 100000 in
theorem ev_X12_bribesNow (U : TU) (lt : Int32) (B : TB2) (F A : TX) (se : AF) (R : TR) (O : TO) (V : TX) (al : AF) (dr : Int32) (hF : F.1 ≤ 8) (hA : AOK A) (s0 : Nat) (h9 : s0 ≤ 9) (h0 : se 0 = nI s0) (hV : VOK V) : Ev MX12_bribesNow [.ref 0] (mwd U lt B F A se R O V al dr) (fun v w => v = some (.int (nI (brbN (fun v => seenB F.1 F.2 (nmR A.2) (se 0) (se 1) (nI v) A.1 (SV V)) 10))) ∧ ∃ R2 : TR, w = (mwd U lt B F A se R2 O V al dr) ∧ RI F A se R2) := by
  refine ev_of bX12_bribesNow [some (.ref 0), none, none, none] (Nat.le_of_ble_eq_true rfl) rfl ?_
  refine go_aload_n dX12_bribesNow_0 rfl ?_
  refine go_getf fX12_34 dX12_bribesNow_1 rfl rfl ?_
  refine go_iconst (2) dX12_bribesNow_4 (by decide) ?_
  refine go_iald dX12_bribesNow_5 rfl (vp_in_nI (n := 2) (by decide) (by decide)) ?_
  rw [show se (2 : Int32).toNatClampNeg = se 2 from rfl]
  refine go_istore_n dX12_bribesNow_6 (by decide) ?_
  refine go_iconst (0) dX12_bribesNow_7 (by decide) ?_
  refine go_istore_n dX12_bribesNow_8 (by decide) ?_
  refine go_iconst (0) dX12_bribesNow_9 (by decide) ?_
  refine go_istore_n dX12_bribesNow_10 (by decide) ?_
  suffices loop : ∀ (d i : Nat) (y : Int32) (R : TR), i + d = 10 → Go X0 MX12_bribesNow (fun v w => v = some (.int (nI (brbN (fun v => seenB F.1 F.2 (nmR A.2) (se 0) (se 1) (nI v) A.1 (SV V)) 10))) ∧ ∃ R2 : TR, w = (mwd U lt B F A se R2 O V al dr) ∧ RI F A se R2) 21 0 0 11 [some (.ref 0), some (.int (se 2)), some (.int (nI (brbN (fun v => seenB F.1 F.2 (nmR A.2) (se 0) (se 1) (nI v) A.1 (SV V)) i))), some (.int (nI i))] [] (mwd U lt B F A (upd se 2 y) R O V al dr) from (by have := loop 10 0 (se 2) R (by omega); rw [upd_same] at this; exact this)
  intro d
  induction d with
  | zero =>
    intro i y R hi
    obtain rfl : i = 10 := by omega
    refine go_iload_n dX12_bribesNow_11 rfl ?_
    refine go_bipush (10) dX12_bribesNow_12 (by decide) ?_
    refine go_icmp_ge 47 dX12_bribesNow_14 (by decide) (fun _ => ?_) (fun c_14 => absurd (by decide) c_14)
    refine go_aload_n dX12_bribesNow_47 rfl ?_
    refine go_getf fX12_34 dX12_bribesNow_48 rfl rfl ?_
    refine go_iconst (2) dX12_bribesNow_51 (by decide) ?_
    refine go_iload_n dX12_bribesNow_52 rfl ?_
    refine go_iast dX12_bribesNow_53 rfl (vp_in_nI (n := 2) (by decide) (by decide)) ?_
    rw [show upd (upd se 2 y) (2 : Int32).toNatClampNeg (se 2) = se from (upd_upd se 2 y (se 2)).trans (upd_same se 2)]
    refine go_aload_n dX12_bribesNow_54 rfl ?_
    refine go_callVs (z := MX12_goes) dX12_bribesNow_55 lX12_162 sX12_goes (ev_X12_goes U lt B F A se R O V al dr hF hA s0 h9 h0) rfl rfl rfl ⟨_, _, rfl⟩ rfl rfl (fun v w1 h => by obtain ⟨-, F2, rfl, -⟩ := h; rfl) (fun v_55 w_55 h_55 => ?_)
    obtain ⟨rfl, R2, rfl, hR⟩ := h_55
    refine go_iload_n dX12_bribesNow_58 rfl ?_
    refine go_ireturn dX12_bribesNow_59 rfl rfl (Nat.le_of_ble_eq_true rfl) (Nat.le_of_ble_eq_true rfl) ?_
    exact ⟨rfl, R2, rfl, hR⟩
  | succ d ih =>
    intro i y R hi
    have hlt := brb_lt (fun v => seenB F.1 F.2 (nmR A.2) (se 0) (se 1) (nI v) A.1 (SV V)) i
    have hp : 2 ^ i ≤ 2 ^ 10 := Nat.pow_le_pow_right (by decide) (by omega)
    refine go_iload_n dX12_bribesNow_11 rfl ?_
    refine go_bipush (10) dX12_bribesNow_12 (by decide) ?_
    refine go_icmp_ge 47 dX12_bribesNow_14 (by decide) (fun c_14 => absurd c_14 (nI_ge (b := 10) (by omega) (by decide))) (fun _ => ?_)
    refine go_aload_n dX12_bribesNow_17 rfl ?_
    refine go_getf fX12_34 dX12_bribesNow_18 rfl rfl ?_
    refine go_iconst (2) dX12_bribesNow_21 (by decide) ?_
    refine go_iload_n dX12_bribesNow_22 rfl ?_
    refine go_iast dX12_bribesNow_23 rfl (vp_in_nI (n := 2) (by decide) (by decide)) ?_
    rw [show upd (upd se 2 y) (2 : Int32).toNatClampNeg (nI i) = upd se 2 (nI i) from upd_upd se 2 y (nI i)]
    refine go_iload_n dX12_bribesNow_24 rfl ?_
    refine go_aload_n dX12_bribesNow_25 rfl ?_
    refine go_callVs (z := MX12_isSeen) dX12_bribesNow_26 lX12_246 sX12_isSeen (ev_X12_isSeen U lt B F A (upd se 2 (nI i)) R O V al dr hF hA s0 h9 h0 hV) rfl rfl rfl ⟨_, _, rfl⟩ rfl rfl (fun v w1 h => by obtain ⟨-, F2, rfl, -⟩ := h; rfl) (fun v_26 w_26 h_26 => ?_)
    obtain ⟨rfl, R2, rfl, hR⟩ := h_26
    refine go_cut1 (J := 39) (fun v => nI (brbN (fun v => seenB F.1 F.2 (nmR A.2) (se 0) (se 1) (nI v) A.1 (SV V)) i) ||| v = nI (brbN (fun v => seenB F.1 F.2 (nmR A.2) (se 0) (se 1) (nI v) A.1 (SV V)) (i + 1))) (fun v_39 hv_39 => ?_) (fun kk_39 => ?_)
    case refine_2 =>
      refine go_if_eq 38 dX12_bribesNow_29 (by decide) (fun c_29 => ?_) (fun c_29 => ?_)
      · refine go_iconst (0) dX12_bribesNow_38 (by decide) ?_
        exact kk_39 _ (by
          first
          | rw [brb_f (ok := (fun v => seenB F.1 F.2 (nmR A.2) (se 0) (se 1) (nI v) A.1 (SV V))) (v := i) (bool0 c_29), show (0 : Int32) = nI 0 from rfl, fa_or, Nat.or_zero]
          | rw [brb_t (ok := (fun v => seenB F.1 F.2 (nmR A.2) (se 0) (se 1) (nI v) A.1 (SV V))) (v := i) (bool1 c_29), sh1 i (by omega), fa_or])
      · refine go_iconst (1) dX12_bribesNow_32 (by decide) ?_
        refine go_iload_n dX12_bribesNow_33 rfl ?_
        refine go_ishl dX12_bribesNow_34 ?_
        refine go_goto 39 dX12_bribesNow_35 (by decide) ?_
        exact kk_39 _ (by
          first
          | rw [brb_f (ok := (fun v => seenB F.1 F.2 (nmR A.2) (se 0) (se 1) (nI v) A.1 (SV V))) (v := i) (bool0 c_29), show (0 : Int32) = nI 0 from rfl, fa_or, Nat.or_zero]
          | rw [brb_t (ok := (fun v => seenB F.1 F.2 (nmR A.2) (se 0) (se 1) (nI v) A.1 (SV V))) (v := i) (bool1 c_29), sh1 i (by omega), fa_or])
    refine go_ior dX12_bribesNow_39 ?_
    refine go_istore_n dX12_bribesNow_40 (by decide) ?_
    refine go_iincN (1) dX12_bribesNow_41 rfl (by decide) (by decide) ?_
    refine go_goto 11 dX12_bribesNow_44 (by decide) ?_
    rw [nI_1, hv_39]
    exact ih (i + 1) (nI i) R2 (by omega)
