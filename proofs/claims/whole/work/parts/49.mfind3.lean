theorem dig_in {b : Int32} (h : ¬ b < 48 ∧ ¬ 57 < b) : ∃ a, a ≤ 9 ∧ b - 48 = nI a := by
  obtain ⟨h1, h2⟩ := h
  rw [Int32.lt_iff_toInt_lt, show ((48 : Int32)).toInt = 48 from rfl] at h1
  rw [Int32.lt_iff_toInt_lt, show ((57 : Int32)).toInt = 57 from rfl] at h2
  refine ⟨(b.toInt - 48).toNat, by omega, ?_⟩
  apply Int32.toInt_inj.mp
  rw [Int32.toInt_sub, show ((48 : Int32)).toInt = 48 from rfl, Int.bmod_eq_of_le (by omega) (by omega), nI_toInt (by omega)]
  omega
theorem gsz_none {n : Nat} {b : Nat → Int32} (h47 : n ≤ 47) (h : 0 < gsz n b) : bad b n 0 = none := by
  cases q : bad b n 0 with
  | none => rfl
  | some i =>
    have := (flt_some q (by omega)).2
    omega
theorem gok_of {n : Nat} {b pf : Nat → Int32} (h47 : n ≤ 47) (h : ∀ f k, f < gsz n b → k < 5 → pf (5 * f + k) = prt k (b (6 * f + k))) : GOK (gsz n b) pf := by
  intro f hf
  have h5 := gsz_in hf
  have hn := bad_ok (gsz_none (n := n) (b := b) h47 (by omega)) (6 * f + 1) (by omega) (by omega)
  rw [show (6 * f + 1) % 6 = 1 by omega] at hn
  obtain ⟨a, ha, e⟩ := dig_in (of_decide_eq_true hn)
  exact ⟨a, ha, (h f 1 hf (by decide)).trans e⟩
theorem FInv.gok {n : Nat} {b : Nat → Int32} {F : TX} (h : FInv n b F) (h47 : n ≤ 47) : GOK F.1 F.2 := by
  have e := h.1
  rw [e]
  exact gok_of h47 (fun f k hf hk => h.2 f k (by omega) hk)
theorem GInv.gok {t : TX} {G : TG} (h : GInv t G) (h47 : t.1 ≤ 47) : GOK G.1 G.2.2 := by
  have e := h.1
  rw [e]
  exact gok_of h47 (fun f k hf hk => h.2.2 f k (by omega) hk)
theorem fo_start (U : TU) (lt : Int32) (B : TB2) (F A : TX) (se : AF) (R : TR) (O : TO) (V : TX) (al : AF) (dr : Int32) (hF : F.1 ≤ 8) (hG : GOK F.1 F.2) (s0 gl : Nat) (h9 : s0 ≤ 9) (h8 : gl ≤ 8) (hg1 : 1 ≤ gl) (h0 : se 0 = nI s0) (h1 : se 1 = nI gl) {QQ : Option Value → List AE → Prop} (hQ : ∀ w, (fun (v : Option Value) (w : List AE) => v = none ∧ ∃ (O2 : TO) (ln v0 : Nat), w = (mwd U lt B F A se R O2 V al dr) ∧ PlanOK F.1 F.2 s0 gl (se 2) ln O2.2.2.2.2.1 v0 ∧ v0 ≤ 16 ^ gl ∧ ln ≤ 8 ∧ O2.2.2.2.2.2.1 = (if ln = 0 then -1 else nI ln) ∧ O2.2.2.2.2.2.2 = lN (v0 * 2 ^ (32 - 4 * gl))) none w → QQ none w) (o3 : Option Value) (hr : O.1 0 = -1) (hO1 : O.2.1 0 = se 0) (hO2 : O.2.2.1 0 = 0) (hO3 : O.2.2.2.1 0 = 4294967296) (hO4 : O.2.2.2.2.2.1 = -1) (hO5 : O.2.2.2.2.2.2 = 0) : Go X0 MX12_findOrder QQ 21 0 0 49 [some (.ref 0), some (.int (nI 0)), some (.int (nI 0)), o3] [] (mwd U lt B F A se R O V al dr) := by
  refine fo_head0 U lt B F A se R O V al dr 0 0 o3 (by decide) hr ?_
  have hbd := plan_bd hG (se 2) h9
  have hv := vtB_is (gl := gl) hbd hF
  have o0 : okr (lvN F.2 (se 2) F.1) s0 0 s0 := ⟨Nat.le_refl _, Nat.le_add_right _ _⟩
  have hc0 : cnt8 (0 &&& (lvN F.2 (se 2) F.1)) = 0 := by rw [Nat.zero_and]; rfl
  have p0 : 0 < 2 ^ F.1 := Nat.two_pow_pos _
  have hv0 : (vtB F.1 (lvN F.2 (se 2) F.1) gl (fcN F.2 (se 2)) (nxN F.2 (se 2) s0)) 0 s0 ≤ 16 ^ gl := by
    have := (hv 0 p0 s0 o0).2
    rw [hc0, Nat.sub_zero] at this
    exact this
  have hlen : (grow F.1 (lvN F.2 (se 2) F.1) gl (fcN F.2 (se 2)) (nxN F.2 (se 2) s0) (vtB F.1 (lvN F.2 (se 2) F.1) gl (fcN F.2 (se 2)) (nxN F.2 (se 2) s0)) F.1 0 s0).length ≤ 8 := Nat.le_trans (grow_len _ _ _ _ _ _ _ _ _) hF
  have fin : ∀ (O2 : TO) (x : Int32), Bst O2 (if 1 * (vtB F.1 (lvN F.2 (se 2) F.1) gl (fcN F.2 (se 2)) (nxN F.2 (se 2) s0)) 0 s0 * 2 ^ (32 - 4 * gl) ≤ 0 then (0, []) else (1 * (vtB F.1 (lvN F.2 (se 2) F.1) gl (fcN F.2 (se 2)) (nxN F.2 (se 2) s0)) 0 s0 * 2 ^ (32 - 4 * gl), grow F.1 (lvN F.2 (se 2) F.1) gl (fcN F.2 (se 2)) (nxN F.2 (se 2) s0) (vtB F.1 (lvN F.2 (se 2) F.1) gl (fcN F.2 (se 2)) (nxN F.2 (se 2) s0)) F.1 0 s0)) → Go X0 MX12_findOrder QQ 21 0 0 49 [some (.ref 0), some (.int (nI 0 + -1)), some (.int (nI 0)), some (.int x)] [] (mwd U lt B F A se R O2 V al dr) := by
    intro O2 x hB
    refine go_iload_n dX12_findOrder_49 rfl ?_
    refine go_if_lt 221 dX12_findOrder_50 (by decide) (fun _ => ?_) (fun c_50 => absurd (by decide) c_50)
    refine go_return dX12_findOrder_221 rfl (Nat.le_of_ble_eq_true rfl) (Nat.le_of_ble_eq_true rfl) ?_
    refine hQ _ ⟨rfl, O2, (if (vtB F.1 (lvN F.2 (se 2) F.1) gl (fcN F.2 (se 2)) (nxN F.2 (se 2) s0)) 0 s0 = 0 then 0 else (grow F.1 (lvN F.2 (se 2) F.1) gl (fcN F.2 (se 2)) (nxN F.2 (se 2) s0) (vtB F.1 (lvN F.2 (se 2) F.1) gl (fcN F.2 (se 2)) (nxN F.2 (se 2) s0)) F.1 0 s0).length), (vtB F.1 (lvN F.2 (se 2) F.1) gl (fcN F.2 (se 2)) (nxN F.2 (se 2) s0)) 0 s0, rfl, ⟨(vtB F.1 (lvN F.2 (se 2) F.1) gl (fcN F.2 (se 2)) (nxN F.2 (se 2) s0)), hv, rfl, rfl, fun j hj => ?_⟩, hv0, ?_, ?_, ?_⟩
    · by_cases q : (vtB F.1 (lvN F.2 (se 2) F.1) gl (fcN F.2 (se 2)) (nxN F.2 (se 2) s0)) 0 s0 = 0
      · rw [if_pos q] at hj; exact absurd hj (by omega)
      · rw [if_neg q] at hj
        have hp : ¬ 1 * (vtB F.1 (lvN F.2 (se 2) F.1) gl (fcN F.2 (se 2)) (nxN F.2 (se 2) s0)) 0 s0 * 2 ^ (32 - 4 * gl) ≤ 0 := by
          have : 0 < 1 * (vtB F.1 (lvN F.2 (se 2) F.1) gl (fcN F.2 (se 2)) (nxN F.2 (se 2) s0)) 0 s0 * 2 ^ (32 - 4 * gl) := Nat.mul_pos (by omega) (Nat.two_pow_pos _)
          omega
        rw [if_neg hp] at hB
        exact hB.2.2 j hj
    · by_cases q : (vtB F.1 (lvN F.2 (se 2) F.1) gl (fcN F.2 (se 2)) (nxN F.2 (se 2) s0)) 0 s0 = 0
      · rw [if_pos q]; omega
      · rw [if_neg q]; exact hlen
    · by_cases q : (vtB F.1 (lvN F.2 (se 2) F.1) gl (fcN F.2 (se 2)) (nxN F.2 (se 2) s0)) 0 s0 = 0
      · rw [if_pos (by rw [q, Nat.mul_zero, Nat.zero_mul]; exact Nat.le_refl _)] at hB
        rw [if_pos q]
        exact hB.2.1
      · have hp : ¬ 1 * (vtB F.1 (lvN F.2 (se 2) F.1) gl (fcN F.2 (se 2)) (nxN F.2 (se 2) s0)) 0 s0 * 2 ^ (32 - 4 * gl) ≤ 0 := by
          have : 0 < 1 * (vtB F.1 (lvN F.2 (se 2) F.1) gl (fcN F.2 (se 2)) (nxN F.2 (se 2) s0)) 0 s0 * 2 ^ (32 - 4 * gl) := Nat.mul_pos (by omega) (Nat.two_pow_pos _)
          omega
        rw [if_neg hp] at hB
        rw [if_neg q]
        exact hB.2.1
    · by_cases q : 1 * (vtB F.1 (lvN F.2 (se 2) F.1) gl (fcN F.2 (se 2)) (nxN F.2 (se 2) s0)) 0 s0 * 2 ^ (32 - 4 * gl) ≤ 0
      · rw [if_pos q] at hB
        rw [Nat.one_mul] at q
        rw [Nat.le_zero.mp q]
        exact hB.1
      · rw [if_neg q, Nat.one_mul] at hB
        exact hB.1
  by_cases hz : F.1 = 0
  · have hvz : (vtB F.1 (lvN F.2 (se 2) F.1) gl (fcN F.2 (se 2)) (nxN F.2 (se 2) s0)) 0 s0 = 0 := by
      rw [(hv 0 p0 s0 o0).1]
      unfold vrec
      rw [if_neg (by omega)]
      exact Nat.le_zero.mp (mxl_le fun f hf => absurd hf (by omega))
    have hge : nI F.1 ≤ nI 0 := by rw [hz]; exact Int32.le_refl _
    have hnl : ¬ nI 0 < nI F.1 := Int32.not_lt.mpr hge
    refine go_iload_n dX12_findOrder_84 rfl ?_
    refine go_aload_n dX12_findOrder_85 rfl ?_
    refine go_getf fX12_112 dX12_findOrder_86 rfl rfl ?_
    refine go_icmp_ge 106 dX12_findOrder_89 (by decide) (fun _ => ?_) (fun c_89 => absurd (hge) c_89)
    refine go_iload_n dX12_findOrder_106 rfl ?_
    refine go_aload_n dX12_findOrder_107 rfl ?_
    refine go_getf fX12_112 dX12_findOrder_108 rfl rfl ?_
    refine go_icmp_lt 120 dX12_findOrder_111 (by decide) (fun c_111 => absurd c_111 (hnl)) (fun _ => ?_)
    refine go_iincN (-1) dX12_findOrder_114 rfl (by decide) (by decide) ?_
    refine go_goto 218 dX12_findOrder_117 (by decide) ?_
    refine go_goto 49 dX12_findOrder_218 (by decide) ?_
    refine fin O _ ?_
    rw [if_pos (by rw [hvz, Nat.mul_zero, Nat.zero_mul]; exact Nat.le_refl _)]
    exact ⟨hO5, hO4, fun i hi => absurd hi (Nat.not_lt_zero i)⟩
  · obtain ⟨e, he⟩ : ∃ e, e + 0 + 1 = F.1 := ⟨F.1 - 1, by omega⟩
    refine fo84 U lt B F A se R V al dr hF hG s0 gl h9 h8 h0 h1 (vtB F.1 (lvN F.2 (se 2) F.1) gl (fcN F.2 (se 2)) (nxN F.2 (se 2) s0)) hv QQ e 0 he F.1 0 (by omega) O (0, []) 0 s0 1 [] p0 rfl o0 (by omega) (Nat.one_le_pow _ _ (by decide)) rfl (fun k hk => absurd hk (by omega)) (by rw [hO1, h0]) (by rw [hO2, hc0]; rfl) (by rw [hO3, hc0]; rfl) ⟨hO5, hO4, fun i hi => absurd hi (Nat.not_lt_zero i)⟩ (Nat.zero_le _) (fun O2 x hK hB hb => ?_)
    rw [fo_all (hv 0 p0) o0 (by omega), show e + 1 = F.1 by omega, List.nil_append] at hB
    exact fin O2 x hB
set_option maxRecDepth 100000 in
theorem ev_X12_findOrder (U : TU) (lt : Int32) (B : TB2) (F A : TX) (se : AF) (R : TR) (O : TO) (V : TX) (al : AF) (dr : Int32) (hF : F.1 ≤ 8) (hG : GOK F.1 F.2) (s0 gl : Nat) (h9 : s0 ≤ 9) (h8 : gl ≤ 8) (hg1 : 1 ≤ gl) (h0 : se 0 = nI s0) (h1 : se 1 = nI gl) : Ev MX12_findOrder [.ref 0] (mwd U lt B F A se R O V al dr) (fun (v : Option Value) (w : List AE) => v = none ∧ ∃ (O2 : TO) (ln v0 : Nat), w = (mwd U lt B F A se R O2 V al dr) ∧ PlanOK F.1 F.2 s0 gl (se 2) ln O2.2.2.2.2.1 v0 ∧ v0 ≤ 16 ^ gl ∧ ln ≤ 8 ∧ O2.2.2.2.2.2.1 = (if ln = 0 then -1 else nI ln) ∧ O2.2.2.2.2.2.2 = lN (v0 * 2 ^ (32 - 4 * gl))) := by
  refine ev_of bX12_findOrder [some (.ref 0), none, none, none] (Nat.le_of_ble_eq_true rfl) rfl ?_
  refine go_aload_n dX12_findOrder_0 rfl ?_
  refine go_iconst (-1) dX12_findOrder_1 (by decide) ?_
  refine go_putf fX12_210 dX12_findOrder_2 rfl (fun _ _ _ h => by cases h; rfl) (fun _ => rfl) (fun _ => rfl) (Nat.le_of_ble_eq_true rfl) ?_
  refine go_aload_n dX12_findOrder_5 rfl ?_
  refine go_lconst 0 dX12_findOrder_6 (by decide) ?_
  refine go_putf fX12_206 dX12_findOrder_7 rfl (fun _ _ _ h => by cases h; rfl) (fun _ => rfl) (fun _ => rfl) (Nat.le_of_ble_eq_true rfl) ?_
  refine go_aload_n dX12_findOrder_10 rfl ?_
  refine go_getf fX12_52 dX12_findOrder_11 rfl rfl ?_
  refine go_iconst (0) dX12_findOrder_14 (by decide) ?_
  refine go_aload_n dX12_findOrder_15 rfl ?_
  refine go_getf fX12_34 dX12_findOrder_16 rfl rfl ?_
  refine go_iconst (0) dX12_findOrder_19 (by decide) ?_
  refine go_iald dX12_findOrder_20 rfl (vp_in_nI (n := 0) (by decide) (by decide)) ?_
  refine go_iast dX12_findOrder_21 rfl (vp_in_nI (n := 0) (by decide) (by decide)) ?_
  refine go_aload_n dX12_findOrder_22 rfl ?_
  refine go_getf fX12_55 dX12_findOrder_23 rfl rfl ?_
  refine go_iconst (0) dX12_findOrder_26 (by decide) ?_
  refine go_iconst (0) dX12_findOrder_27 (by decide) ?_
  refine go_iast dX12_findOrder_28 rfl (vp_in_nI (n := 0) (by decide) (by decide)) ?_
  refine go_aload_n dX12_findOrder_29 rfl ?_
  refine go_getf fX12_58 dX12_findOrder_30 rfl rfl ?_
  refine go_iconst (0) dX12_findOrder_33 (by decide) ?_
  refine go_ldc2_w dX12_findOrder_34 kX12_171 ?_
  refine go_last dX12_findOrder_37 rfl (vp_in_nI (n := 0) (by decide) (by decide)) ?_
  refine go_iconst (0) dX12_findOrder_38 (by decide) ?_
  refine go_istore_n dX12_findOrder_39 (by decide) ?_
  refine go_iconst (0) dX12_findOrder_40 (by decide) ?_
  refine go_istore_n dX12_findOrder_41 (by decide) ?_
  refine go_aload_n dX12_findOrder_42 rfl ?_
  refine go_getf fX12_49 dX12_findOrder_43 rfl rfl ?_
  refine go_iconst (0) dX12_findOrder_46 (by decide) ?_
  refine go_iconst (-1) dX12_findOrder_47 (by decide) ?_
  refine go_iast dX12_findOrder_48 rfl (vp_in_nI (n := 0) (by decide) (by decide)) ?_
  exact fo_start U lt B F A se R (upd O.1 0 (-1), upd O.2.1 0 (se 0), upd O.2.2.1 0 0, vp_updL O.2.2.2.1 0 4294967296, O.2.2.2.2.1, -1, 0) V al dr hF hG s0 gl h9 h8 hg1 h0 h1 (fun w h => h) none rfl rfl rfl rfl rfl rfl
