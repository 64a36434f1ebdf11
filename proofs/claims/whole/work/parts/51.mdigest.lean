theorem ord_by {x : Int32} {ln : Nat} {bm : Int32} {row : Nat → Int32} (hl : ln ≤ 8) (hx : x = -1 ∨ ¬ x < 0 ∧ x < 8) (hb : bm = (if ln = 0 then -1 else nI ln)) : (if x = -1 ∨ bm = -1 then bm else if bm ≤ x then -1 else row x.toNatClampNeg) = ordI x ln row := by
  unfold ordI
  by_cases h0 : ln = 0
  · rw [if_pos h0] at hb ⊢
    rw [if_pos (Or.inr hb), hb]
  · rw [if_neg h0] at hb ⊢
    have hne : ¬ bm = -1 := by
      rw [hb]
      intro q
      have := congrArg Int32.toInt q
      rw [nI_toInt (by omega), show ((-1 : Int32)).toInt = -1 from rfl] at this
      omega
    by_cases h1 : x = -1
    · rw [if_pos (Or.inl h1), if_pos h1, hb]
    · rw [if_neg (fun q => q.elim h1 hne), if_neg h1, hb]
theorem in7 {x : Int32} (h : ¬ (if x < -1 ∨ 7 < x then (0 : Int32) else 1) = 0) : x = -1 ∨ ¬ x < 0 ∧ x < 8 := by
  have h1 := full_t3 h
  have h2 : ¬ x < -1 := fun q => h1 (Or.inl q)
  have h3 : ¬ 7 < x := fun q => h1 (Or.inr q)
  rw [Int32.lt_iff_toInt_lt, show ((-1 : Int32)).toInt = -1 from rfl] at h2
  rw [le7, Int32.le_iff_toInt_le, show ((8 : Int32)).toInt = 8 from rfl] at h3
  by_cases q : x.toInt = -1
  · exact Or.inl (Int32.toInt_inj.mp (q.trans rfl))
  · refine Or.inr ⟨?_, ?_⟩
    · rw [Int32.lt_iff_toInt_lt, show ((0 : Int32)).toInt = 0 from rfl]; omega
    · rw [Int32.lt_iff_toInt_lt, show ((8 : Int32)).toInt = 8 from rfl]; omega
theorem pl_le {v gl : Nat} (hg : gl ≤ 8) (h : v ≤ 16 ^ gl) : v ≤ 2 ^ 32 := x_lt hg h
theorem fin_ge {n : Nat} {B : TB2} {F F2 : TX} (h : FInv n B.1 F) (h2 : FInv n B.1 F2) : GEq (GM n B F) (GM n B F2) := GEq_of (t := T0M n B) (t2 := T0M n B) ⟨rfl, fun _ _ => rfl⟩ (GM_inv h) (GM_inv h2)
theorem fin_ne {m : Nat} {B : TB2} {A A2 : TX} (h : AInv m (fun i => B.1 (48 + i)) A) (h2 : AInv m (fun i => B.1 (48 + i)) A2) : NEq (NM m B A) (NM m B A2) := NEq_of (t := T1M m B) (t2 := T1M m B) ⟨rfl, fun _ _ => rfl⟩ (NM_inv h) (NM_inv h2)
theorem cnt_cg {t0 t1 u0 u1 : TX} {G N G2 N2 : TG} {T : TT} {S S2 : TS} {lf : Int32} (h0 : t0.1 = u0.1) (h1 : t1.1 = u1.1) (hG : GEq G G2) (hN : NEq N N2) (hS : S.1 = S2.1) (j : Nat) : cntV t0 t1 G N (cC G N T) S lf j = cntV u0 u1 G2 N2 (cC G2 N2 T) S2 lf j := by
  obtain ⟨G1, G21, G22⟩ := G
  obtain ⟨H1, H21, H22⟩ := G2
  obtain ⟨N1, N21, N22⟩ := N
  obtain ⟨O1, O21, O22⟩ := N2
  obtain ⟨rfl, rfl, hp⟩ := hG
  have hnn := hN.nm
  obtain ⟨rfl, rfl, hn⟩ := hN
  dsimp only at hp hn hnn
  unfold cntV cC
  dsimp only
  rw [fg_congr (fun i hi => wC_cg hp hnn (nI T.1) (nI T.2.1) (nI T.2.2) i hi), nv_congr (fun f _ => wF_cg hp hnn (nI T.1) (nI T.2.1) (nI T.2.2) f N1 (Nat.le_refl _)), wst_cg hp hnn (nI T.1) (nI T.2.1) (nI T.2.2) N1 (Nat.le_refl _), h0, h1, hS]
theorem five_at {f k : Nat} {y : Int32} (hy : y = nI k) : (5 : Int32) * nI f + y = nI (5 * f + k) := by rw [hy, five]
set_option maxRecDepth 100000 in
theorem ev_X12_order (U : TU) (lt : Int32) (B : TB2) (F A : TX) (se : AF) (R : TR) (O : TO) (V : TX) (al : AF) (dr : Int32) (n m s0 gl br : Nat) (ok : MOK B se n m s0 gl br) (hg1 : 1 ≤ gl) (x : Int32) : Ev MX12_order [.ref 0, .int x] (mwd U lt B F A se R O V al dr) (fun v w => ∃ (F2 A2 : TX) (R2 : TR) (O2 : TO), FInv n B.1 F2 ∧ AInv m (fun i => B.1 (48 + i)) A2 ∧ w = (mwd U lt B F2 A2 se R2 O2 V al dr) ∧ ((x < -1 ∨ 7 < x) ∧ v = some (.int (-2)) ∨ ¬ (x < -1 ∨ 7 < x) ∧ ∃ (ln v0 : Nat) (row : Nat → Int32), PlanOK F2.1 F2.2 s0 gl (se 2) ln row v0 ∧ ln ≤ 8 ∧ v = some (.int (ordI x ln row)))) := by
  refine ev_of bX12_order [some (.ref 0), some (.int x)] (Nat.le_of_ble_eq_true rfl) rfl ?_
  refine go_aload_n dX12_order_0 rfl ?_
  refine go_callVs (z := MX12_find) dX12_order_1 lX12_165 sX12_find (ev_X12_find U lt B F A se R O V al dr n m s0 gl br ok) rfl rfl rfl ⟨_, _, rfl⟩ rfl rfl (fun v w1 h => by obtain ⟨-, F2, A2, R2, rfl, -⟩ := h; rfl) (fun v_1 w_1 h_1 => ?_)
  obtain ⟨rfl, F2, A2, R2, rfl, g1, g2, g3⟩ := h_1
  have hF := g1.le ok.hn
  have hA := g2.ok ok.hm
  have hA1 := hA.1
  refine go_iload_n dX12_order_4 rfl ?_
  refine go_i2l dX12_order_5 ?_
  refine go_ldc2_w dX12_order_6 kX12_221 ?_
  refine go_ldc2_w dX12_order_9 kX12_223 ?_
  refine go_callSi (z := MX12_in) [] dX12_order_12 lX12_73 sX12_in (ev_X12_in x (-1) 7 _ _ rfl rfl) rfl rfl rfl rfl rfl rfl ?_
  refine go_if_ne 21 dX12_order_15 (by decide) (fun c_15 => ?_) (fun c_15 => ?_)
  · refine go_aload_n dX12_order_21 rfl ?_
    refine go_callVs (z := MX12_findOrder) dX12_order_22 lX12_225 sX12_findOrder (ev_X12_findOrder U lt B F2 A2 se R2 O V al dr hF (g1.gok ok.hn) s0 gl ok.h9 ok.h8 hg1 ok.e0 ok.e1) rfl rfl rfl ⟨_, _, rfl⟩ rfl rfl (fun v w1 h => by obtain ⟨-, O2, ln, v0, rfl, -⟩ := h; rfl) (fun v_22 w_22 h_22 => ?_)
    obtain ⟨rfl, O2, ln, v0, rfl, p1, p2, p3, p4, p5⟩ := h_22
    refine go_aload_n dX12_order_25 rfl ?_
    refine go_iload_n dX12_order_26 rfl ?_
    refine go_callVsi (z := MX12_orderBy) dX12_order_27 lX12_228 sX12_orderBy (ev_X12_orderBy U lt B F2 A2 se R2 O2 V al dr x (in7 c_15)) rfl rfl rfl ⟨_, _, rfl⟩ rfl rfl ?_
    rw [ord_by p3 (in7 c_15) p4]
    refine go_ireturn dX12_order_30 rfl rfl (Nat.le_of_ble_eq_true rfl) (Nat.le_of_ble_eq_true rfl) ?_
    exact ⟨F2, A2, R2, O2, g1, g2, rfl, Or.inr ⟨full_t3 c_15, ln, v0, _, p1, p3, rfl⟩⟩
  · refine go_bipush (-2) dX12_order_18 (by decide) ?_
    refine go_ireturn dX12_order_20 rfl rfl (Nat.le_of_ble_eq_true rfl) (Nat.le_of_ble_eq_true rfl) ?_
    exact ⟨F2, A2, R2, O, g1, g2, rfl, Or.inl ⟨full_t2 c_15, rfl⟩⟩
set_option maxRecDepth 100000 in
theorem ev_X12_best (U : TU) (lt : Int32) (B : TB2) (F A : TX) (se : AF) (R : TR) (O : TO) (V : TX) (al : AF) (dr : Int32) (n m s0 gl br : Nat) (ok : MOK B se n m s0 gl br) (hg1 : 1 ≤ gl) (y : Int32) : Ev MX12_best [.ref 0, .int y] (mwd U lt B F A se R O V al dr) (fun v w => ∃ (F2 A2 : TX) (R2 : TR) (O2 : TO), FInv n B.1 F2 ∧ AInv m (fun i => B.1 (48 + i)) A2 ∧ w = (mwd U lt B F2 A2 se R2 O2 V al dr) ∧ (¬ (y = 0 ∨ y = 1) ∧ v = some (.long badL) ∨ (y = 0 ∨ y = 1) ∧ ∃ (ln v0 : Nat) (row : Nat → Int32), PlanOK F2.1 F2.2 s0 gl (se 2) ln row v0 ∧ ln ≤ 8 ∧ v = some (.long (tolL v0 (4 * gl) y)))) := by
  refine ev_of bX12_best [some (.ref 0), some (.int y)] (Nat.le_of_ble_eq_true rfl) rfl ?_
  refine go_aload_n dX12_best_0 rfl ?_
  refine go_callVs (z := MX12_find) dX12_best_1 lX12_165 sX12_find (ev_X12_find U lt B F A se R O V al dr n m s0 gl br ok) rfl rfl rfl ⟨_, _, rfl⟩ rfl rfl (fun v w1 h => by obtain ⟨-, F2, A2, R2, rfl, -⟩ := h; rfl) (fun v_1 w_1 h_1 => ?_)
  obtain ⟨rfl, F2, A2, R2, rfl, g1, g2, g3⟩ := h_1
  have hF := g1.le ok.hn
  have hA := g2.ok ok.hm
  have hA1 := hA.1
  refine go_iload_n dX12_best_4 rfl ?_
  refine go_callSi (z := MX12_isTwo) [] dX12_best_5 lX12_102 sX12_isTwo (ev_X12_isTwo y) rfl rfl rfl rfl rfl rfl ?_
  refine go_if_ne 17 dX12_best_8 (by decide) (fun c_8 => ?_) (fun c_8 => ?_)
  · refine go_aload_n dX12_best_17 rfl ?_
    refine go_callVs (z := MX12_findOrder) dX12_best_18 lX12_225 sX12_findOrder (ev_X12_findOrder U lt B F2 A2 se R2 O V al dr hF (g1.gok ok.hn) s0 gl ok.h9 ok.h8 hg1 ok.e0 ok.e1) rfl rfl rfl ⟨_, _, rfl⟩ rfl rfl (fun v w1 h => by obtain ⟨-, O2, ln, v0, rfl, -⟩ := h; rfl) (fun v_18 w_18 h_18 => ?_)
    obtain ⟨rfl, O2, ln, v0, rfl, p1, p2, p3, p4, p5⟩ := h_18
    refine go_aload_n dX12_best_21 rfl ?_
    refine go_getf fX12_206 dX12_best_22 rfl rfl ?_
    rw [p5]
    refine go_iload_n dX12_best_25 rfl ?_
    refine go_callSj (z := MX12_tells) [] dX12_best_26 lX12_181 sX12_tells (ev_X12_tells v0 (4 * gl) (by have := ok.h8; omega) (sc_lt ok.h8 p2) y) rfl rfl rfl rfl rfl rfl ?_
    refine go_lreturn dX12_best_29 rfl (Nat.le_of_ble_eq_true rfl) (Nat.le_of_ble_eq_true rfl) ?_
    exact ⟨F2, A2, R2, O2, g1, g2, rfl, Or.inr ⟨two_t c_8, ln, v0, _, p1, p3, rfl⟩⟩
  · refine go_bipush (-2) dX12_best_11 (by decide) ?_
    refine go_callSj (z := MX12_no) [] dX12_best_13 lX12_185 sX12_no (ev_X12_no (-2)) rfl rfl rfl rfl rfl rfl ?_
    refine go_lreturn dX12_best_16 rfl (Nat.le_of_ble_eq_true rfl) (Nat.le_of_ble_eq_true rfl) ?_
    exact ⟨F2, A2, R2, O, g1, g2, rfl, Or.inl ⟨two_f c_8, rfl⟩⟩
set_option maxRecDepth 100000 in
theorem md_cnt (U : TU) (lt : Int32) (B : TB2) (F A : TX) (se : AF) (R : TR) (O : TO) (V : TX) (al : AF) (dr : Int32) (n m s0 gl br : Nat) (ok : MOK B se n m s0 gl br) {QQ : Option Value → List AE → Prop} (Fc Ac : TX) (hc1 : FInv n B.1 Fc) (hc2 : AInv m (fun i => B.1 (48 + i)) Ac) (k : ∀ (F A : TX) (R : TR), Go X0 MX12_digest QQ 21 0 0 31 [some (.ref 0), some (.long (dgN (fun j => [(cntV (T0M n B) (T1M m B) (GM n B Fc) (NM m B Ac) (cC (GM n B Fc) (NM m B Ac) (s0, gl, br)) (SV V) lt j).toInt64]) 17 8)), none, none, none] [] (mwd U lt B F A se R O V al dr)) : Go X0 MX12_digest QQ 21 0 0 0 [some (.ref 0), none, none, none, none] [] (mwd U lt B F A se R O V al dr) := by
  refine go_ldc2_w dX12_digest_0 kX12_279 ?_
  refine go_lstore_n dX12_digest_3 (by decide) ?_
  refine go_iconst (0) dX12_digest_4 (by decide) ?_
  refine go_istore_n dX12_digest_5 (by decide) ?_
  suffices loop : ∀ (d j : Nat) (F A : TX) (R : TR), j + d = 8 → Go X0 MX12_digest QQ 21 0 0 6 [some (.ref 0), some (.long (dgN (fun j => [(cntV (T0M n B) (T1M m B) (GM n B Fc) (NM m B Ac) (cC (GM n B Fc) (NM m B Ac) (s0, gl, br)) (SV V) lt j).toInt64]) 17 j)), none, some (.int (nI j)), none] [] (mwd U lt B F A se R O V al dr) from loop 8 0 F A R (by omega)
  intro d
  induction d with
  | zero =>
    intro j F A R hj
    rw [show j = 8 by omega]
    refine go_iload_n dX12_digest_6 rfl ?_
    refine go_bipush (8) dX12_digest_7 (by decide) ?_
    refine go_icmp_ge 31 dX12_digest_9 (by decide) (fun _ => ?_) (fun c_9 => absurd (by decide) c_9)
    refine go_clr 3 ?_
    exact k F A R
  | succ d ih =>
    intro j F A R hj
    refine go_iload_n dX12_digest_6 rfl ?_
    refine go_bipush (8) dX12_digest_7 (by decide) ?_
    refine go_icmp_ge 31 dX12_digest_9 (by decide) (fun c_9 => absurd c_9 (nI_ge (b := 8) (by omega) (by decide))) (fun _ => ?_)
    refine go_ldc2_w dX12_digest_12 kX12_277 ?_
    refine go_lload_n dX12_digest_15 rfl ?_
    refine go_lmul dX12_digest_16 ?_
    refine go_aload_n dX12_digest_17 rfl ?_
    refine go_iload_n dX12_digest_18 rfl ?_
    refine go_callVs (z := MX12_count) dX12_digest_19 lX12_281 sX12_count (ev_X12_count U lt B F A se R O V al dr n m s0 gl br ok (nI j)) rfl rfl rfl ⟨_, _, rfl⟩ rfl rfl (fun v w1 h => by obtain ⟨F2, A2, R2, -, -, -, rfl⟩ := h; rfl) (fun v_19 w_19 h_19 => ?_)
    obtain ⟨F2, A2, R2, g1, g2, rfl, rfl⟩ := h_19
    rw [cnt_at (show j < 9 by omega), cnt_cg (u0 := T0M n B) (u1 := T1M m B) (S2 := SV V) rfl rfl (fin_ge g1 hc1) (fin_ne g2 hc2) rfl]
    refine go_i2l dX12_digest_22 ?_
    refine go_ladd dX12_digest_23 ?_
    refine go_lstore_n dX12_digest_24 (by decide) ?_
    refine go_iincN (1) dX12_digest_25 rfl (by decide) (by decide) ?_
    refine go_goto 6 dX12_digest_28 (by decide) ?_
    rw [nI_1]
    exact ih (j + 1) F2 A2 R2 (by omega)
set_option maxRecDepth 100000 in
theorem md_find (U : TU) (lt : Int32) (B : TB2) (F A : TX) (se : AF) (R : TR) (O : TO) (V : TX) (al : AF) (dr : Int32) (n m s0 gl br : Nat) (ok : MOK B se n m s0 gl br) {QQ : Option Value → List AE → Prop} (hh : Int64) (k : ∀ (F A : TX) (R : TR), FInv n B.1 F → AInv m (fun i => B.1 (48 + i)) A → RI F A se R → Go X0 MX12_digest QQ 21 0 0 59 [some (.ref 0), some (.long (dgs hh [(fltI n B.1).toInt64, (nfl m (fun i => B.1 (48 + i))).toInt64])), none, none, none] [] (mwd U lt B F A se R O V al dr)) : Go X0 MX12_digest QQ 21 0 0 31 [some (.ref 0), some (.long (hh)), none, none, none] [] (mwd U lt B F A se R O V al dr) := by
  refine go_ldc2_w dX12_digest_31 kX12_277 ?_
  refine go_lload_n dX12_digest_34 rfl ?_
  refine go_lmul dX12_digest_35 ?_
  refine go_aload_n dX12_digest_36 rfl ?_
  refine go_callVs (z := MX12_readsFelons) dX12_digest_37 lX12_125 sX12_readsFelons (ev_X12_readsFelons U lt B F A se R O V al dr n ok.hn ok.ht) rfl rfl rfl ⟨_, _, rfl⟩ rfl rfl (fun v w1 h => by obtain ⟨-, F2, rfl, -⟩ := h; rfl) (fun v_37 w_37 h_37 => ?_)
  obtain ⟨rfl, F2, rfl, -⟩ := h_37
  refine go_i2l dX12_digest_40 ?_
  refine go_ladd dX12_digest_41 ?_
  refine go_lstore_n dX12_digest_42 (by decide) ?_
  refine go_ldc2_w dX12_digest_43 kX12_277 ?_
  refine go_lload_n dX12_digest_46 rfl ?_
  refine go_lmul dX12_digest_47 ?_
  refine go_aload_n dX12_digest_48 rfl ?_
  refine go_callVs (z := MX12_readsNames) dX12_digest_49 lX12_129 sX12_readsNames (ev_X12_readsNames U lt B F2 A se R O V al dr m ok.hm ok.hu) rfl rfl rfl ⟨_, _, rfl⟩ rfl rfl (fun v w1 h => by obtain ⟨-, F2, rfl, -⟩ := h; rfl) (fun v_49 w_49 h_49 => ?_)
  obtain ⟨rfl, A2, rfl, -⟩ := h_49
  refine go_i2l dX12_digest_52 ?_
  refine go_ladd dX12_digest_53 ?_
  refine go_lstore_n dX12_digest_54 (by decide) ?_
  refine go_aload_n dX12_digest_55 rfl ?_
  refine go_callVs (z := MX12_find) dX12_digest_56 lX12_165 sX12_find (ev_X12_find U lt B F2 A2 se R O V al dr n m s0 gl br ok) rfl rfl rfl ⟨_, _, rfl⟩ rfl rfl (fun v w1 h => by obtain ⟨-, F2, A2, R2, rfl, -⟩ := h; rfl) (fun v_56 w_56 h_56 => ?_)
  obtain ⟨rfl, F3, A3, R3, rfl, g1, g2, g3⟩ := h_56
  exact k F3 A3 R3 g1 g2 g3
set_option maxRecDepth 100000 in
theorem md_fel (U : TU) (lt : Int32) (B : TB2) (F A : TX) (se : AF) (R : TR) (O : TO) (V : TX) (al : AF) (dr : Int32) (n m s0 gl br : Nat) (ok : MOK B se n m s0 gl br) {QQ : Option Value → List AE → Prop} (hh : Int64) (hF : F.1 ≤ 8) (hA : AOK A) (hR : RI F A se R) (hV : VOK V) (k : ∀ (R : TR), RI F A se R → Go X0 MX12_digest QQ 21 0 0 148 [some (.ref 0), some (.long (dgN (aFel (GM n B F) (NM m B A) (s0, gl, br) (SV V)) hh F.1)), none, none, none] [] (mwd U lt B F A se R O V al dr)) : Go X0 MX12_digest QQ 21 0 0 59 [some (.ref 0), some (.long (hh)), none, none, none] [] (mwd U lt B F A se R O V al dr) := by
  refine go_iconst (0) dX12_digest_59 (by decide) ?_
  refine go_istore_n dX12_digest_60 (by decide) ?_
  suffices loop : ∀ (d f : Nat) (E : TR), f + d = F.1 → RI F A se E → Go X0 MX12_digest QQ 21 0 0 61 [some (.ref 0), some (.long (dgN (aFel (GM n B F) (NM m B A) (s0, gl, br) (SV V)) hh f)), none, some (.int (nI f)), none] [] (mwd U lt B F A se E O V al dr) from loop F.1 0 R (by omega) hR
  intro d
  induction d with
  | zero =>
    intro f E hf hE
    rw [show f = F.1 by omega]
    refine go_iload_n dX12_digest_61 rfl ?_
    refine go_aload_n dX12_digest_62 rfl ?_
    refine go_getf fX12_112 dX12_digest_63 rfl rfl ?_
    refine go_icmp_ge 148 dX12_digest_66 (by decide) (fun _ => ?_) (fun c_66 => absurd (Int32.le_refl _) c_66)
    refine go_clr 3 ?_
    exact k E hE
  | succ d ih =>
    intro f E hf hE
    refine go_iload_n dX12_digest_61 rfl ?_
    refine go_aload_n dX12_digest_62 rfl ?_
    refine go_getf fX12_112 dX12_digest_63 rfl rfl ?_
    refine go_icmp_ge 148 dX12_digest_66 (by decide) (fun c_66 => absurd c_66 (nI_ge (by omega) (by omega))) (fun _ => ?_)
    refine go_iconst (0) dX12_digest_69 (by decide) ?_
    refine go_istore dX12_digest_70 (by decide) ?_
    refine go_iload dX12_digest_72 rfl ?_
    refine go_iconst (5) dX12_digest_74 (by decide) ?_
    refine go_icmp_ge 103 dX12_digest_75 (by decide) (fun c_75 => absurd c_75 (by decide)) (fun _ => ?_)
    refine go_ldc2_w dX12_digest_78 kX12_277 ?_
    refine go_lload_n dX12_digest_81 rfl ?_
    refine go_lmul dX12_digest_82 ?_
    refine go_aload_n dX12_digest_83 rfl ?_
    refine go_getf fX12_28 dX12_digest_84 rfl rfl ?_
    refine go_iconst (5) dX12_digest_87 (by decide) ?_
    refine go_iload_n dX12_digest_88 rfl ?_
    refine go_imul dX12_digest_89 ?_
    refine go_iload dX12_digest_90 rfl ?_
    refine go_iadd dX12_digest_92 ?_
    rw [five_at (f := f) (k := 0) (by decide)]
    refine go_iald dX12_digest_93 rfl (vp_in_nI (by omega) (by decide)) ?_
    simp only [nI_clamp (show 5 * f + 0 < 2 ^ 31 by omega)]
    refine go_i2l dX12_digest_94 ?_
    refine go_ladd dX12_digest_95 ?_
    refine go_lstore_n dX12_digest_96 (by decide) ?_
    refine go_iincN (1) dX12_digest_97 rfl (by decide) (by decide) ?_
    refine go_goto 72 dX12_digest_100 (by decide) ?_
    refine go_iload dX12_digest_72 rfl ?_
    refine go_iconst (5) dX12_digest_74 (by decide) ?_
    refine go_icmp_ge 103 dX12_digest_75 (by decide) (fun c_75 => absurd c_75 (by decide)) (fun _ => ?_)
    refine go_ldc2_w dX12_digest_78 kX12_277 ?_
    refine go_lload_n dX12_digest_81 rfl ?_
    refine go_lmul dX12_digest_82 ?_
    refine go_aload_n dX12_digest_83 rfl ?_
    refine go_getf fX12_28 dX12_digest_84 rfl rfl ?_
    refine go_iconst (5) dX12_digest_87 (by decide) ?_
    refine go_iload_n dX12_digest_88 rfl ?_
    refine go_imul dX12_digest_89 ?_
    refine go_iload dX12_digest_90 rfl ?_
    refine go_iadd dX12_digest_92 ?_
    rw [five_at (f := f) (k := 1) (by decide)]
    refine go_iald dX12_digest_93 rfl (vp_in_nI (by omega) (by decide)) ?_
    simp only [nI_clamp (show 5 * f + 1 < 2 ^ 31 by omega)]
    refine go_i2l dX12_digest_94 ?_
    refine go_ladd dX12_digest_95 ?_
    refine go_lstore_n dX12_digest_96 (by decide) ?_
    refine go_iincN (1) dX12_digest_97 rfl (by decide) (by decide) ?_
    refine go_goto 72 dX12_digest_100 (by decide) ?_
    refine go_iload dX12_digest_72 rfl ?_
    refine go_iconst (5) dX12_digest_74 (by decide) ?_
    refine go_icmp_ge 103 dX12_digest_75 (by decide) (fun c_75 => absurd c_75 (by decide)) (fun _ => ?_)
    refine go_ldc2_w dX12_digest_78 kX12_277 ?_
    refine go_lload_n dX12_digest_81 rfl ?_
    refine go_lmul dX12_digest_82 ?_
    refine go_aload_n dX12_digest_83 rfl ?_
    refine go_getf fX12_28 dX12_digest_84 rfl rfl ?_
    refine go_iconst (5) dX12_digest_87 (by decide) ?_
    refine go_iload_n dX12_digest_88 rfl ?_
    refine go_imul dX12_digest_89 ?_
    refine go_iload dX12_digest_90 rfl ?_
    refine go_iadd dX12_digest_92 ?_
    rw [five_at (f := f) (k := 2) (by decide)]
    refine go_iald dX12_digest_93 rfl (vp_in_nI (by omega) (by decide)) ?_
    simp only [nI_clamp (show 5 * f + 2 < 2 ^ 31 by omega)]
    refine go_i2l dX12_digest_94 ?_
    refine go_ladd dX12_digest_95 ?_
    refine go_lstore_n dX12_digest_96 (by decide) ?_
    refine go_iincN (1) dX12_digest_97 rfl (by decide) (by decide) ?_
    refine go_goto 72 dX12_digest_100 (by decide) ?_
    refine go_iload dX12_digest_72 rfl ?_
    refine go_iconst (5) dX12_digest_74 (by decide) ?_
    refine go_icmp_ge 103 dX12_digest_75 (by decide) (fun c_75 => absurd c_75 (by decide)) (fun _ => ?_)
    refine go_ldc2_w dX12_digest_78 kX12_277 ?_
    refine go_lload_n dX12_digest_81 rfl ?_
    refine go_lmul dX12_digest_82 ?_
    refine go_aload_n dX12_digest_83 rfl ?_
    refine go_getf fX12_28 dX12_digest_84 rfl rfl ?_
    refine go_iconst (5) dX12_digest_87 (by decide) ?_
    refine go_iload_n dX12_digest_88 rfl ?_
    refine go_imul dX12_digest_89 ?_
    refine go_iload dX12_digest_90 rfl ?_
    refine go_iadd dX12_digest_92 ?_
    rw [five_at (f := f) (k := 3) (by decide)]
    refine go_iald dX12_digest_93 rfl (vp_in_nI (by omega) (by decide)) ?_
    simp only [nI_clamp (show 5 * f + 3 < 2 ^ 31 by omega)]
    refine go_i2l dX12_digest_94 ?_
    refine go_ladd dX12_digest_95 ?_
    refine go_lstore_n dX12_digest_96 (by decide) ?_
    refine go_iincN (1) dX12_digest_97 rfl (by decide) (by decide) ?_
    refine go_goto 72 dX12_digest_100 (by decide) ?_
    refine go_iload dX12_digest_72 rfl ?_
    refine go_iconst (5) dX12_digest_74 (by decide) ?_
    refine go_icmp_ge 103 dX12_digest_75 (by decide) (fun c_75 => absurd c_75 (by decide)) (fun _ => ?_)
    refine go_ldc2_w dX12_digest_78 kX12_277 ?_
    refine go_lload_n dX12_digest_81 rfl ?_
    refine go_lmul dX12_digest_82 ?_
    refine go_aload_n dX12_digest_83 rfl ?_
    refine go_getf fX12_28 dX12_digest_84 rfl rfl ?_
    refine go_iconst (5) dX12_digest_87 (by decide) ?_
    refine go_iload_n dX12_digest_88 rfl ?_
    refine go_imul dX12_digest_89 ?_
    refine go_iload dX12_digest_90 rfl ?_
    refine go_iadd dX12_digest_92 ?_
    rw [five_at (f := f) (k := 4) (by decide)]
    refine go_iald dX12_digest_93 rfl (vp_in_nI (by omega) (by decide)) ?_
    simp only [nI_clamp (show 5 * f + 4 < 2 ^ 31 by omega)]
    refine go_i2l dX12_digest_94 ?_
    refine go_ladd dX12_digest_95 ?_
    refine go_lstore_n dX12_digest_96 (by decide) ?_
    refine go_iincN (1) dX12_digest_97 rfl (by decide) (by decide) ?_
    refine go_goto 72 dX12_digest_100 (by decide) ?_
    refine go_iload dX12_digest_72 rfl ?_
    refine go_iconst (5) dX12_digest_74 (by decide) ?_
    refine go_icmp_ge 103 dX12_digest_75 (by decide) (fun _ => ?_) (fun c_75 => absurd (by decide) c_75)
    refine go_ldc2_w dX12_digest_103 kX12_277 ?_
    refine go_lload_n dX12_digest_106 rfl ?_
    refine go_lmul dX12_digest_107 ?_
    refine go_aload_n dX12_digest_108 rfl ?_
    refine go_iload_n dX12_digest_109 rfl ?_
    refine go_callVsi (z := MX12_fateOf) dX12_digest_110 lX12_201 sX12_fateOf (ev_X12_fateOf U lt B F A se E O V al dr hA hE f (by omega)) rfl rfl rfl ⟨_, _, rfl⟩ rfl rfl ?_
    rw [ok.e0, ok.e1, ok.e2]
    refine go_i2l dX12_digest_113 ?_
    refine go_ladd dX12_digest_114 ?_
    refine go_lstore_n dX12_digest_115 (by decide) ?_
    refine go_ldc2_w dX12_digest_116 kX12_277 ?_
    refine go_lload_n dX12_digest_119 rfl ?_
    refine go_lmul dX12_digest_120 ?_
    refine go_aload_n dX12_digest_121 rfl ?_
    refine go_iload_n dX12_digest_122 rfl ?_
    refine go_callVsi (z := MX12_chainOf) dX12_digest_123 lX12_237 sX12_chainOf (ev_X12_chainOf U lt B F A se E O V al dr hF (nI f)) rfl rfl rfl ⟨_, _, rfl⟩ rfl rfl ?_
    refine go_i2l dX12_digest_126 ?_
    refine go_ladd dX12_digest_127 ?_
    refine go_lstore_n dX12_digest_128 (by decide) ?_
    refine go_ldc2_w dX12_digest_129 kX12_277 ?_
    refine go_lload_n dX12_digest_132 rfl ?_
    refine go_lmul dX12_digest_133 ?_
    refine go_aload_n dX12_digest_134 rfl ?_
    refine go_iload_n dX12_digest_135 rfl ?_
    refine go_callVs (z := MX12_kindsOf) dX12_digest_136 lX12_253 sX12_kindsOf (ev_X12_kindsOf U lt B F A se E O V al dr hF hA s0 ok.h9 ok.e0 hV f (by omega)) rfl rfl rfl ⟨_, _, rfl⟩ rfl rfl (fun v w1 h => by obtain ⟨-, R2, rfl, -⟩ := h; rfl) (fun v_136 w_136 h_136 => ?_)
    obtain ⟨rfl, E2, rfl, hE2⟩ := h_136
    rw [ok.e0, ok.e1, ok.e2]
    refine go_i2l dX12_digest_139 ?_
    refine go_ladd dX12_digest_140 ?_
    refine go_lstore_n dX12_digest_141 (by decide) ?_
    refine go_iincN (1) dX12_digest_142 rfl (by decide) (by decide) ?_
    refine go_goto 61 dX12_digest_145 (by decide) ?_
    rw [nI_1]
    refine go_clr 4 ?_
    exact ih (f + 1) E2 (by omega) hE2
set_option maxRecDepth 100000 in
theorem md_nam (U : TU) (lt : Int32) (B : TB2) (F A : TX) (se : AF) (R : TR) (O : TO) (V : TX) (al : AF) (dr : Int32) (n m s0 gl br : Nat) (ok : MOK B se n m s0 gl br) {QQ : Option Value → List AE → Prop} (hh : Int64) (hF : F.1 ≤ 8) (hA : AOK A) (hR : RI F A se R) (k : Go X0 MX12_digest QQ 21 0 0 206 [some (.ref 0), some (.long (dgN (aNam (GM n B F) (NM m B A) (s0, gl, br)) hh A.1)), none, none, none] [] (mwd U lt B F A se R O V al dr)) : Go X0 MX12_digest QQ 21 0 0 148 [some (.ref 0), some (.long (hh)), none, none, none] [] (mwd U lt B F A se R O V al dr) := by
  have hA1 := hA.1
  refine go_iconst (0) dX12_digest_148 (by decide) ?_
  refine go_istore_n dX12_digest_149 (by decide) ?_
  suffices loop : ∀ (d i : Nat), i + d = A.1 → Go X0 MX12_digest QQ 21 0 0 150 [some (.ref 0), some (.long (dgN (aNam (GM n B F) (NM m B A) (s0, gl, br)) hh i)), none, some (.int (nI i)), none] [] (mwd U lt B F A se R O V al dr) from loop A.1 0 (by omega)
  intro d
  induction d with
  | zero =>
    intro i hi
    rw [show i = A.1 by omega]
    refine go_iload_n dX12_digest_150 rfl ?_
    refine go_aload_n dX12_digest_151 rfl ?_
    refine go_getf fX12_118 dX12_digest_152 rfl rfl ?_
    refine go_icmp_ge 206 dX12_digest_155 (by decide) (fun _ => ?_) (fun c_155 => absurd (Int32.le_refl _) c_155)
    refine go_clr 3 ?_
    exact k
  | succ d ih =>
    intro i hi
    refine go_iload_n dX12_digest_150 rfl ?_
    refine go_aload_n dX12_digest_151 rfl ?_
    refine go_getf fX12_118 dX12_digest_152 rfl rfl ?_
    refine go_icmp_ge 206 dX12_digest_155 (by decide) (fun c_155 => absurd c_155 (nI_ge (by omega) (by omega))) (fun _ => ?_)
    refine go_ldc2_w dX12_digest_158 kX12_277 ?_
    refine go_lload_n dX12_digest_161 rfl ?_
    refine go_lmul dX12_digest_162 ?_
    refine go_aload_n dX12_digest_163 rfl ?_
    refine go_getf fX12_31 dX12_digest_164 rfl rfl ?_
    refine go_iload_n dX12_digest_167 rfl ?_
    refine go_iald dX12_digest_168 rfl (vp_in_nI (by omega) (by decide)) ?_
    simp only [nI_clamp (show i < 2 ^ 31 by omega)]
    refine go_i2l dX12_digest_169 ?_
    refine go_ladd dX12_digest_170 ?_
    refine go_lstore_n dX12_digest_171 (by decide) ?_
    refine go_ldc2_w dX12_digest_172 kX12_277 ?_
    refine go_lload_n dX12_digest_175 rfl ?_
    refine go_lmul dX12_digest_176 ?_
    refine go_aload_n dX12_digest_177 rfl ?_
    refine go_getf fX12_37 dX12_digest_178 rfl rfl ?_
    refine go_iload_n dX12_digest_181 rfl ?_
    refine go_iald dX12_digest_182 rfl (vp_in_nI (by omega) (by decide)) ?_
    simp only [nI_clamp (show i < 2 ^ 31 by omega)]
    rw [(hR.1 i (by omega)).1, ok.e0, ok.e1, ok.e2]
    refine go_i2l dX12_digest_183 ?_
    refine go_ladd dX12_digest_184 ?_
    refine go_lstore_n dX12_digest_185 (by decide) ?_
    refine go_ldc2_w dX12_digest_186 kX12_277 ?_
    refine go_lload_n dX12_digest_189 rfl ?_
    refine go_lmul dX12_digest_190 ?_
    refine go_aload_n dX12_digest_191 rfl ?_
    refine go_getf fX12_40 dX12_digest_192 rfl rfl ?_
    refine go_iload_n dX12_digest_195 rfl ?_
    refine go_iald dX12_digest_196 rfl (vp_in_nI (by omega) (by decide)) ?_
    simp only [nI_clamp (show i < 2 ^ 31 by omega)]
    rw [(hR.1 i (by omega)).2, ok.e0, ok.e1, ok.e2]
    refine go_i2l dX12_digest_197 ?_
    refine go_ladd dX12_digest_198 ?_
    refine go_lstore_n dX12_digest_199 (by decide) ?_
    refine go_iincN (1) dX12_digest_200 rfl (by decide) (by decide) ?_
    refine go_goto 150 dX12_digest_203 (by decide) ?_
    rw [nI_1]
    exact ih (i + 1) (by omega)
set_option maxRecDepth 100000 in
theorem md_beh (U : TU) (lt : Int32) (B : TB2) (F A : TX) (se : AF) (R : TR) (O : TO) (V : TX) (al : AF) (dr : Int32) (n m s0 gl br : Nat) (ok : MOK B se n m s0 gl br) {QQ : Option Value → List AE → Prop} (hh : Int64) (hF : F.1 ≤ 8) (hA : AOK A) (hR : RI F A se R) (k : Go X0 MX12_digest QQ 21 0 0 260 [some (.ref 0), some (.long (dgN (aBeh (GM n B F) (NM m B A) (s0, gl, br)) hh (A.1 + 1))), none, none, none] [] (mwd U lt B F A se R O V al dr)) : Go X0 MX12_digest QQ 21 0 0 206 [some (.ref 0), some (.long (hh)), none, none, none] [] (mwd U lt B F A se R O V al dr) := by
  have hA1 := hA.1
  refine go_iconst (0) dX12_digest_206 (by decide) ?_
  refine go_istore_n dX12_digest_207 (by decide) ?_
  suffices loop : ∀ (d i : Nat), i + d = A.1 + 1 → Go X0 MX12_digest QQ 21 0 0 208 [some (.ref 0), some (.long (dgN (aBeh (GM n B F) (NM m B A) (s0, gl, br)) hh i)), none, some (.int (nI i)), none] [] (mwd U lt B F A se R O V al dr) from loop (A.1 + 1) 0 (by omega)
  intro d
  induction d with
  | zero =>
    intro i hi
    rw [show i = A.1 + 1 by omega]
    refine go_iload_n dX12_digest_208 rfl ?_
    refine go_aload_n dX12_digest_209 rfl ?_
    refine go_getf fX12_118 dX12_digest_210 rfl rfl ?_
    refine go_icmp_gt 260 dX12_digest_213 (by decide) (fun _ => ?_) (fun c_213 => absurd (nI_lt (by omega) (by omega)) c_213)
    refine go_clr 3 ?_
    exact k
  | succ d ih =>
    intro i hi
    have hk := (kW_ok F.1 F.2 (nmR A.2) (se 0) (se 2) gl ok.h8 i).2
    have hk8 := ok.h8
    have hlt := sc_lt (show kW F.1 F.2 (nmR A.2) (se 0) (nI gl) (se 2) i ≤ 8 by omega) (aW_ok F.1 F.2 (nmR A.2) (se 0) (se 2) gl ok.h8 i).2
    refine go_iload_n dX12_digest_208 rfl ?_
    refine go_aload_n dX12_digest_209 rfl ?_
    refine go_getf fX12_118 dX12_digest_210 rfl rfl ?_
    refine go_icmp_gt 260 dX12_digest_213 (by decide) (fun c_213 => absurd c_213 (fun q => absurd ((nI_ltI (by omega) (by omega)).mp q) (by omega))) (fun _ => ?_)
    refine go_ldc2_w dX12_digest_216 kX12_277 ?_
    refine go_lload_n dX12_digest_219 rfl ?_
    refine go_lmul dX12_digest_220 ?_
    refine go_aload_n dX12_digest_221 rfl ?_
    refine go_iload_n dX12_digest_222 rfl ?_
    refine go_iconst (0) dX12_digest_223 (by decide) ?_
    refine go_callVsi (z := MX12_behindOf) dX12_digest_224 lX12_168 sX12_behindOf (ev_X12_behindOf U lt B F A se R O V al dr hA hR i (by omega) 0) rfl rfl rfl ⟨_, _, rfl⟩ rfl rfl ?_
    rw [if_pos rfl, ok.e0, ok.e1, ok.e2]
    refine go_i2l dX12_digest_227 ?_
    refine go_ladd dX12_digest_228 ?_
    refine go_lstore_n dX12_digest_229 (by decide) ?_
    refine go_ldc2_w dX12_digest_230 kX12_277 ?_
    refine go_lload_n dX12_digest_233 rfl ?_
    refine go_lmul dX12_digest_234 ?_
    refine go_aload_n dX12_digest_235 rfl ?_
    refine go_iload_n dX12_digest_236 rfl ?_
    refine go_iconst (1) dX12_digest_237 (by decide) ?_
    refine go_callVsi (z := MX12_behindOf) dX12_digest_238 lX12_168 sX12_behindOf (ev_X12_behindOf U lt B F A se R O V al dr hA hR i (by omega) 1) rfl rfl rfl ⟨_, _, rfl⟩ rfl rfl ?_
    rw [if_neg (by decide), ok.e0, ok.e1, ok.e2]
    refine go_i2l dX12_digest_241 ?_
    refine go_ladd dX12_digest_242 ?_
    refine go_lstore_n dX12_digest_243 (by decide) ?_
    refine go_lload_n dX12_digest_244 rfl ?_
    refine go_aload_n dX12_digest_245 rfl ?_
    refine go_iload_n dX12_digest_246 rfl ?_
    refine go_callVsj (z := MX12_aliveOf) dX12_digest_247 lX12_177 sX12_aliveOf (ev_X12_aliveOf U lt B F A se R O V al dr hA hR gl ok.h8 ok.e1 i (by omega)) rfl rfl rfl ⟨_, _, rfl⟩ rfl rfl ?_
    refine go_callSj (z := MX12_tellsBoth) [] dX12_digest_250 lX12_284 sX12_tellsBoth (ev_X12_tellsBoth (aW F.1 F.2 (nmR A.2) (se 0) (nI gl) (se 2) i) (4 * kW F.1 F.2 (nmR A.2) (se 0) (nI gl) (se 2) i) (by omega) hlt _) rfl rfl rfl rfl rfl rfl ?_
    rw [ok.e0, ok.e2]
    refine go_lstore_n dX12_digest_253 (by decide) ?_
    refine go_iincN (1) dX12_digest_254 rfl (by decide) (by decide) ?_
    refine go_goto 208 dX12_digest_257 (by decide) ?_
    rw [nI_1]
    exact ih (i + 1) (by omega)
set_option maxRecDepth 100000 in
theorem md_end (U : TU) (lt : Int32) (B : TB2) (F A : TX) (se : AF) (R : TR) (O : TO) (V : TX) (al : AF) (dr : Int32) (n m s0 gl br : Nat) (ok : MOK B se n m s0 gl br) {QQ : Option Value → List AE → Prop} (hh : Int64) (hF : F.1 ≤ 8) (hA : AOK A) (hR : RI F A se R) (hG : GOK F.1 F.2) (hg1 : 1 ≤ gl) (hV : VOK V) (hQ : ∀ (R2 : TR) (O2 : TO) (al2 : AF) (dr2 : Int32) (ln v0 : Nat) (row : Nat → Int32), PlanOK F.1 F.2 s0 gl (nI br) ln row v0 → ln ≤ 8 → v0 ≤ 2 ^ 32 → QQ (some (.long (dgs (dgs hh (aPl (GM n B F) (NM m B A) (s0, gl, br) ln v0 row)) (aEnd (GM n B F) (NM m B A) (s0, gl, br) (SV V))))) (mwd U lt B F A se R2 O2 V al2 dr2)) : Go X0 MX12_digest QQ 21 0 0 260 [some (.ref 0), some (.long (hh)), none, none, none] [] (mwd U lt B F A se R O V al dr) := by
  have hA1 := hA.1
  refine go_lload_n dX12_digest_260 rfl ?_
  refine go_aload_n dX12_digest_261 rfl ?_
  refine go_callVsj (z := MX12_livesNow) dX12_digest_262 lX12_188 sX12_livesNow (ev_X12_livesNow U lt B F A se R O V al dr hA hR gl ok.h8 ok.e1) rfl rfl rfl ⟨_, _, rfl⟩ rfl rfl ?_
  refine go_callSj (z := MX12_tellsBoth) [] dX12_digest_265 lX12_284 sX12_tellsBoth (ev_X12_tellsBoth (lvW F.1 F.2 (nmR A.2) (se 0) gl (se 2) A.1) (4 * gl) (by have := ok.h8; omega) (sc_lt ok.h8 (lvW_ok F.1 F.2 (nmR A.2) (se 0) (se 2) gl ok.h8 A.1).2) _) rfl rfl rfl rfl rfl rfl ?_
  rw [ok.e0, ok.e2]
  refine go_lstore_n dX12_digest_268 (by decide) ?_
  refine go_lload_n dX12_digest_269 rfl ?_
  have hcl := ev_X12_harmNow U lt B F A se R O V al dr hA hR gl ok.h8 ok.e1
  rw [show hW F.1 F.2 (nmR A.2) (se 0) (nI gl) (se 2) A.1 = hW F.1 F.2 (nmR A.2) (se 0) (nI gl) (se 2) A.1 * 2 ^ (32 - 32) from (Nat.mul_one _).symm] at hcl
  have hlt : hW F.1 F.2 (nmR A.2) (se 0) (nI gl) (se 2) A.1 * 2 ^ (32 - 32) < 2 ^ 62 := by
    have := (hW_ok F.1 F.2 (nmR A.2) (se 0) (se 2) gl ok.h8 A.1).2
    rw [show 2 ^ (32 - 32) = 1 from rfl, Nat.mul_one]
    omega
  refine go_aload_n dX12_digest_270 rfl ?_
  refine go_callVsj (z := MX12_harmNow) dX12_digest_271 lX12_195 sX12_harmNow (hcl) rfl rfl rfl ⟨_, _, rfl⟩ rfl rfl ?_
  refine go_callSj (z := MX12_tellsBoth) [] dX12_digest_274 lX12_284 sX12_tellsBoth (ev_X12_tellsBoth (hW F.1 F.2 (nmR A.2) (se 0) (nI gl) (se 2) A.1) 32 (by omega) hlt _) rfl rfl rfl rfl rfl rfl ?_
  rw [ok.e0, ok.e2]
  refine go_lstore_n dX12_digest_277 (by decide) ?_
  refine go_ldc2_w dX12_digest_278 kX12_277 ?_
  refine go_lload_n dX12_digest_281 rfl ?_
  refine go_lmul dX12_digest_282 ?_
  refine go_aload_n dX12_digest_283 rfl ?_
  refine go_callVsi (z := MX12_worstNow) dX12_digest_284 lX12_198 sX12_worstNow (ev_X12_worstNow U lt B F A se R O V al dr hA hR) rfl rfl rfl ⟨_, _, rfl⟩ rfl rfl ?_
  rw [ok.e0, ok.e1, ok.e2]
  refine go_i2l dX12_digest_287 ?_
  refine go_ladd dX12_digest_288 ?_
  refine go_lstore_n dX12_digest_289 (by decide) ?_
  refine go_aload_n dX12_digest_290 rfl ?_
  refine go_callVs (z := MX12_findOrder) dX12_digest_291 lX12_225 sX12_findOrder (ev_X12_findOrder U lt B F A se R O V al dr hF hG s0 gl ok.h9 ok.h8 hg1 ok.e0 ok.e1) rfl rfl rfl ⟨_, _, rfl⟩ rfl rfl (fun v w1 h => by obtain ⟨-, O2, ln, v0, rfl, -⟩ := h; rfl) (fun v_291 w_291 h_291 => ?_)
  obtain ⟨rfl, O2, ln, v0, rfl, p1, p2, p3, p4, p5⟩ := h_291
  refine go_ldc2_w dX12_digest_294 kX12_277 ?_
  refine go_lload_n dX12_digest_297 rfl ?_
  refine go_lmul dX12_digest_298 ?_
  refine go_aload_n dX12_digest_299 rfl ?_
  refine go_iconst (-1) dX12_digest_300 (by decide) ?_
  refine go_callVsi (z := MX12_orderBy) dX12_digest_301 lX12_228 sX12_orderBy (ev_X12_orderBy U lt B F A se R O2 V al dr (-1) (Or.inl rfl)) rfl rfl rfl ⟨_, _, rfl⟩ rfl rfl ?_
  rw [ord_by p3 (Or.inl rfl) p4]
  refine go_i2l dX12_digest_304 ?_
  refine go_ladd dX12_digest_305 ?_
  refine go_lstore_n dX12_digest_306 (by decide) ?_
  refine go_ldc2_w dX12_digest_307 kX12_277 ?_
  refine go_lload_n dX12_digest_310 rfl ?_
  refine go_lmul dX12_digest_311 ?_
  refine go_aload_n dX12_digest_312 rfl ?_
  refine go_iconst (0) dX12_digest_313 (by decide) ?_
  refine go_callVsi (z := MX12_orderBy) dX12_digest_314 lX12_228 sX12_orderBy (ev_X12_orderBy U lt B F A se R O2 V al dr 0 (Or.inr ⟨by decide, by decide⟩)) rfl rfl rfl ⟨_, _, rfl⟩ rfl rfl ?_
  rw [ord_by p3 (Or.inr ⟨by decide, by decide⟩) p4]
  refine go_i2l dX12_digest_317 ?_
  refine go_ladd dX12_digest_318 ?_
  refine go_lstore_n dX12_digest_319 (by decide) ?_
  refine go_lload_n dX12_digest_320 rfl ?_
  refine go_aload_n dX12_digest_321 rfl ?_
  refine go_getf fX12_206 dX12_digest_322 rfl rfl ?_
  rw [p5]
  refine go_callSj (z := MX12_tellsBoth) [] dX12_digest_325 lX12_284 sX12_tellsBoth (ev_X12_tellsBoth v0 (4 * gl) (by have := ok.h8; omega) (sc_lt ok.h8 p2) _) rfl rfl rfl rfl rfl rfl ?_
  refine go_lstore_n dX12_digest_328 (by decide) ?_
  refine go_ldc2_w dX12_digest_329 kX12_277 ?_
  refine go_lload_n dX12_digest_332 rfl ?_
  refine go_lmul dX12_digest_333 ?_
  refine go_aload_n dX12_digest_334 rfl ?_
  refine go_callVs (z := MX12_priceNow) dX12_digest_335 lX12_231 sX12_priceNow (ev_X12_priceNow U lt B F A se R O2 V al dr hF hA s0 ok.h9 ok.e0 gl ok.h8 ok.e1) rfl rfl rfl ⟨_, _, rfl⟩ rfl rfl (fun v w1 h => by obtain ⟨-, R3, rfl, -⟩ := h; rfl) (fun v_335 w_335 h_335 => ?_)
  obtain ⟨rfl, Ra, rfl, ha⟩ := h_335
  rw [ok.e0, ok.e1]
  refine go_i2l dX12_digest_338 ?_
  refine go_ladd dX12_digest_339 ?_
  refine go_lstore_n dX12_digest_340 (by decide) ?_
  refine go_ldc2_w dX12_digest_341 kX12_277 ?_
  refine go_lload_n dX12_digest_344 rfl ?_
  refine go_lmul dX12_digest_345 ?_
  refine go_aload_n dX12_digest_346 rfl ?_
  refine go_iconst (4) dX12_digest_347 (by decide) ?_
  refine go_callVs (z := MX12_ruleOf) dX12_digest_348 lX12_234 sX12_ruleOf (ev_X12_ruleOf U lt B F A se Ra O2 V al dr hF hA s0 ok.h9 ok.e0 4 (by decide)) rfl rfl rfl ⟨_, _, rfl⟩ rfl rfl (fun v w1 h => by obtain ⟨-, R3, rfl, -⟩ := h; rfl) (fun v_348 w_348 h_348 => ?_)
  obtain ⟨rfl, Rb, rfl, hb⟩ := h_348
  rw [ok.e0, ok.e2]
  refine go_i2l dX12_digest_351 ?_
  refine go_ladd dX12_digest_352 ?_
  refine go_lstore_n dX12_digest_353 (by decide) ?_
  refine go_ldc2_w dX12_digest_354 kX12_277 ?_
  refine go_lload_n dX12_digest_357 rfl ?_
  refine go_lmul dX12_digest_358 ?_
  refine go_aload_n dX12_digest_359 rfl ?_
  refine go_bipush (9) dX12_digest_360 (by decide) ?_
  refine go_callVs (z := MX12_ruleOf) dX12_digest_362 lX12_234 sX12_ruleOf (ev_X12_ruleOf U lt B F A se Rb O2 V al dr hF hA s0 ok.h9 ok.e0 9 (by decide)) rfl rfl rfl ⟨_, _, rfl⟩ rfl rfl (fun v w1 h => by obtain ⟨-, R3, rfl, -⟩ := h; rfl) (fun v_362 w_362 h_362 => ?_)
  obtain ⟨rfl, Rc, rfl, hc⟩ := h_362
  rw [ok.e0, ok.e2]
  refine go_i2l dX12_digest_365 ?_
  refine go_ladd dX12_digest_366 ?_
  refine go_lstore_n dX12_digest_367 (by decide) ?_
  refine go_ldc2_w dX12_digest_368 kX12_277 ?_
  refine go_lload_n dX12_digest_371 rfl ?_
  refine go_lmul dX12_digest_372 ?_
  refine go_aload_n dX12_digest_373 rfl ?_
  refine go_callVs (z := MX12_bribesNow) dX12_digest_374 lX12_250 sX12_bribesNow (ev_X12_bribesNow U lt B F A se Rc O2 V al dr hF hA s0 ok.h9 ok.e0 hV) rfl rfl rfl ⟨_, _, rfl⟩ rfl rfl (fun v w1 h => by obtain ⟨-, R3, rfl, -⟩ := h; rfl) (fun v_374 w_374 h_374 => ?_)
  obtain ⟨rfl, Rd, rfl, hd⟩ := h_374
  rw [ok.e0, ok.e1]
  refine go_i2l dX12_digest_377 ?_
  refine go_ladd dX12_digest_378 ?_
  refine go_lstore_n dX12_digest_379 (by decide) ?_
  refine go_ldc2_w dX12_digest_380 kX12_277 ?_
  refine go_lload_n dX12_digest_383 rfl ?_
  refine go_lmul dX12_digest_384 ?_
  refine go_aload_n dX12_digest_385 rfl ?_
  refine go_callVs (z := MX12_askNow) dX12_digest_386 lX12_256 sX12_askNow (ev_X12_askNow U lt B F A se Rd O2 V al dr hF hA s0 ok.h9 ok.e0 hV) rfl rfl rfl ⟨_, _, rfl⟩ rfl rfl (fun v w1 h => by obtain ⟨-, R3, al3, rfl, -⟩ := h; rfl) (fun v_386 w_386 h_386 => ?_)
  obtain ⟨rfl, Re, al2, rfl, he⟩ := h_386
  rw [ok.e0, ok.e1]
  refine go_i2l dX12_digest_389 ?_
  refine go_ladd dX12_digest_390 ?_
  refine go_lstore_n dX12_digest_391 (by decide) ?_
  refine go_ldc2_w dX12_digest_392 kX12_277 ?_
  refine go_lload_n dX12_digest_395 rfl ?_
  refine go_lmul dX12_digest_396 ?_
  refine go_aload_n dX12_digest_397 rfl ?_
  refine go_bipush (7) dX12_digest_398 (by decide) ?_
  refine go_bipush (30) dX12_digest_400 (by decide) ?_
  refine go_iconst (0) dX12_digest_402 (by decide) ?_
  refine go_callVs (z := MX12_gaolsOf) dX12_digest_403 lX12_268 sX12_gaolsOf (ev_X12_gaolsOf U lt B F A se Re O2 V al2 dr hA he 30 (by decide) 7 0 (Or.inl rfl)) rfl rfl rfl ⟨_, _, rfl⟩ rfl rfl (fun v w1 h => by obtain ⟨-, s2, rfl⟩ := h; rfl) (fun v_403 w_403 h_403 => ?_)
  obtain ⟨rfl, d1, rfl⟩ := h_403
  rw [if_pos rfl]
  rw [ok.e0, ok.e1, ok.e2]
  refine go_i2l dX12_digest_406 ?_
  refine go_ladd dX12_digest_407 ?_
  refine go_lstore_n dX12_digest_408 (by decide) ?_
  refine go_ldc2_w dX12_digest_409 kX12_277 ?_
  refine go_lload_n dX12_digest_412 rfl ?_
  refine go_lmul dX12_digest_413 ?_
  refine go_aload_n dX12_digest_414 rfl ?_
  refine go_bipush (7) dX12_digest_415 (by decide) ?_
  refine go_bipush (30) dX12_digest_417 (by decide) ?_
  refine go_iconst (1) dX12_digest_419 (by decide) ?_
  refine go_callVs (z := MX12_gaolsOf) dX12_digest_420 lX12_268 sX12_gaolsOf (ev_X12_gaolsOf U lt B F A se Re O2 V al2 d1 hA he 30 (by decide) 7 1 (Or.inr rfl)) rfl rfl rfl ⟨_, _, rfl⟩ rfl rfl (fun v w1 h => by obtain ⟨-, s2, rfl⟩ := h; rfl) (fun v_420 w_420 h_420 => ?_)
  obtain ⟨rfl, d2, rfl⟩ := h_420
  rw [if_neg (by decide)]
  rw [ok.e0, ok.e1, ok.e2]
  refine go_i2l dX12_digest_423 ?_
  refine go_ladd dX12_digest_424 ?_
  refine go_lreturn dX12_digest_425 rfl (Nat.le_of_ble_eq_true rfl) (Nat.le_of_ble_eq_true rfl) ?_
  exact hQ Re O2 al2 d2 ln v0 O2.2.2.2.2.1 (ok.e2 ▸ p1) p3 (pl_le ok.h8 p2)
def fCan (n : Nat) (b : Nat → Int32) : TX := (gsz n b, fun j => prt (j % 5) (b (6 * (j / 5) + j % 5)))
def aCan (n : Nat) (b : Nat → Int32) : TX := (nsz n b, fun i => b i - 97)
theorem fCan_inv (n : Nat) (b : Nat → Int32) : FInv n b (fCan n b) := ⟨rfl, fun f k _ hk => by
  show prt ((5 * f + k) % 5) (b (6 * ((5 * f + k) / 5) + (5 * f + k) % 5)) = _
  rw [show (5 * f + k) % 5 = k by omega, show (5 * f + k) / 5 = f by omega]⟩
theorem aCan_inv (n : Nat) (b : Nat → Int32) : AInv n b (aCan n b) := ⟨rfl, fun _ _ => rfl⟩
set_option maxRecDepth 100000 in
theorem ev_X12_digest (U : TU) (lt : Int32) (B : TB2) (F A : TX) (se : AF) (R : TR) (O : TO) (V : TX) (al : AF) (dr : Int32) (n m s0 gl br : Nat) (ok : MOK B se n m s0 gl br) (hg1 : 1 ≤ gl) (hV : VOK V) : Ev MX12_digest [.ref 0] (mwd U lt B F A se R O V al dr) (fun v w => ∃ (F2 A2 : TX) (R2 : TR) (O2 : TO) (al2 : AF) (dr2 : Int32) (ln v0 : Nat) (row : Nat → Int32), FInv n B.1 F2 ∧ AInv m (fun i => B.1 (48 + i)) A2 ∧ w = (mwd U lt B F2 A2 se R2 O2 V al2 dr2) ∧ PlanOK F2.1 F2.2 s0 gl (nI br) ln row v0 ∧ ln ≤ 8 ∧ v0 ≤ 2 ^ 32 ∧ v = some (.long (dgst (T0M n B) (T1M m B) (GM n B F2) (NM m B A2) (s0, gl, br) (SV V) lt ln v0 row))) := by
  refine ev_of bX12_digest [some (.ref 0), none, none, none, none] (Nat.le_of_ble_eq_true rfl) rfl ?_
  refine md_cnt U lt B F A se R O V al dr n m s0 gl br ok (fCan n B.1) (aCan m (fun i => B.1 (48 + i))) (fCan_inv _ _) (aCan_inv _ _) (fun F A R => ?_)
  refine md_find U lt B F A se R O V al dr n m s0 gl br ok _ (fun F A R g1 g2 g3 => ?_)
  have hF := g1.le ok.hn
  have hA := g2.ok ok.hm
  refine md_fel U lt B F A se R O V al dr n m s0 gl br ok _ hF hA g3 hV (fun R g3 => ?_)
  refine md_nam U lt B F A se R O V al dr n m s0 gl br ok _ hF hA g3 ?_
  refine md_beh U lt B F A se R O V al dr n m s0 gl br ok _ hF hA g3 ?_
  refine md_end U lt B F A se R O V al dr n m s0 gl br ok _ hF hA g3 (g1.gok ok.hn) hg1 hV (fun R2 O2 al2 dr2 ln v0 row p1 p2 p3 => ?_)
  refine ⟨F, A, R2, O2, al2, dr2, ln, v0, row, g1, g2, rfl, p1, p2, p3, ?_⟩
  unfold dgst
  rw [dgN_cg (n := 8) (fun j _ => by rw [cnt_cg (u0 := T0M n B) (u1 := T1M m B) (S2 := SV V) rfl rfl (fin_ge (fCan_inv n B.1) g1) (fin_ne (aCan_inv m (fun i => B.1 (48 + i))) g2) rfl j])]
  rfl
