theorem lt6 {Ln i : Nat} (hL : Ln ≤ 384) (hi : i ≤ 1000) : nI Ln - 6 < nI i ↔ Ln < i + 6 := by
  rw [Int32.lt_iff_toInt_lt, show (6 : Int32) = nI 6 from rfl, pk_sub_toInt (by omega) (by decide), nI_toInt (by omega)]
  omega
set_option maxRecDepth 100000 in
theorem law_loop {nm : String} {b Ln : Nat} {xs : Nat → Int32} (hL : Ln ≤ 384) : ∀ (d i cn sn : Nat) (c m : List AE), Ln < i + 6 * d → i ≤ 400 → cn + 20 * d ≤ 590000 → sn + 20 * d ≤ 7000000 → Sim c m → Go (XL b Ln xs) (ML nm) QL 0 cn sn 18 [some (.ref sid), some (.ref 0), some (.ref 44), some (.int (nI i))] [] (LW c m) := by
  intro d
  induction d with
  | zero =>
    intro i cn sn c m hd hi hcn hsn hs
    refine go_iload_n dL_law_18 rfl ?_
    refine go_aload_n dL_law_19 rfl ?_
    refine go_slen dL_law_20 ?_
    refine go_bipush (6) dL_law_21 (by decide) ?_
    refine go_isub dL_law_23 ?_
    refine go_icmp_gt 1117 dL_law_24 (by decide) (fun _ => ?_) (fun c_24 => absurd ((lt6 hL (by omega)).mpr (by omega)) c_24)
    refine go_iconst (1) dL_law_1117 (by decide) ?_
    exact go_ireturn dL_law_1118 rfl rfl (show cn ≤ 600000 by omega) (show sn ≤ 7302250 by omega) rfl
  | succ d ih =>
    intro i cn sn c m hd hi hcn hsn hs
    refine go_iload_n dL_law_18 rfl ?_
    refine go_aload_n dL_law_19 rfl ?_
    refine go_slen dL_law_20 ?_
    refine go_bipush (6) dL_law_21 (by decide) ?_
    refine go_isub dL_law_23 ?_
    refine go_icmp_gt 1117 dL_law_24 (by decide) (fun c_24 => ?_) (fun c_24 => ?_)
    · refine go_iconst (1) dL_law_1117 (by decide) ?_
      exact go_ireturn dL_law_1118 rfl rfl (show cn ≤ 600000 by omega) (show sn ≤ 7302250 by omega) rfl
    · have hi6 : i + 6 ≤ Ln := Nat.le_of_not_lt fun q => c_24 ((lt6 hL (by omega)).mpr q)
      refine go_aload_n dL_law_27 rfl ?_
      refine go_iload_n dL_law_28 rfl ?_
      refine go_sld dL_law_29 (vp_in_nI (by omega) (by omega)) ?_
      refine go_bipush (63) dL_law_30 (by decide) ?_
      refine go_iand dL_law_32 ?_
      have next : ∀ c1 m1, Sim c1 m1 → Go (XL b Ln xs) (ML nm) QL 0 (cn + 10 + 10) (sn + 10 + 10) 1111 [some (.ref sid), some (.ref 0), some (.ref 44), some (.int (nI i))] [] (LW c1 m1) := by
        intro c1 m1 hs1
        refine go_iincN (6) dL_law_1111 rfl (by decide) (show 3 < 4 by decide) ?_
        refine go_goto 18 dL_law_1114 (by decide) ?_
        rw [show nI i + 6 = nI (i + 6) from nI_add i 6]
        exact ih (i + 6) (cn + 10 + 10) (sn + 10 + 10) c1 m1 (by omega) (by omega) (by omega) (by omega) hs1
      generalize xs (nI i).toNatClampNeg &&& 63 = x
      rcases pk_ix x (n := 34) (by decide) with hx | hx | ⟨j, hj, rfl⟩
      · refine go_tblOut 1111 dL_law_33 (out_lt hx) (by decide) ?_
        exact go_widen (by omega) (by omega) (next c m hs)
      · refine go_tblOut 1111 dL_law_33 (out_ge (n := 33) (by decide) hx) (by decide) ?_
        exact go_widen (by omega) (by omega) (next c m hs)
      · match j, hj with
        | 0, _ =>
          refine go_tblIn 184 dL_law_33 (by decide) (by decide) rfl (by decide) ?_
          exact law_type i hi6 hL c m hs cn sn (by omega) (by omega) next
        | 1, _ =>
          refine go_tblIn 217 dL_law_33 (by decide) (by decide) rfl (by decide) ?_
          exact law_wipe i hi6 hL c m hs cn sn (by omega) (by omega) next
        | 2, _ =>
          refine go_tblIn 240 dL_law_33 (by decide) (by decide) rfl (by decide) ?_
          exact law_undo i hi6 hL c m hs cn sn (by omega) (by omega) next
        | 3, _ =>
          refine go_tblIn 263 dL_law_33 (by decide) (by decide) rfl (by decide) ?_
          exact law_fault i hi6 hL c m hs cn sn (by omega) (by omega) next
        | 4, _ =>
          refine go_tblIn 286 dL_law_33 (by decide) (by decide) rfl (by decide) ?_
          exact law_felon i hi6 hL c m hs cn sn (by omega) (by omega) next
        | 5, _ =>
          refine go_tblIn 319 dL_law_33 (by decide) (by decide) rfl (by decide) ?_
          exact law_name i hi6 hL c m hs cn sn (by omega) (by omega) next
        | 6, _ =>
          refine go_tblIn 342 dL_law_33 (by decide) (by decide) rfl (by decide) ?_
          exact law_set i hi6 hL c m hs cn sn (by omega) (by omega) next
        | 7, _ =>
          refine go_tblIn 375 dL_law_33 (by decide) (by decide) rfl (by decide) ?_
          exact law_comes i hi6 hL c m hs cn sn (by omega) (by omega) next
        | 8, _ =>
          refine go_tblIn 408 dL_law_33 (by decide) (by decide) rfl (by decide) ?_
          exact law_behind i hi6 hL c m hs cn sn (by omega) (by omega) next
        | 9, _ =>
          refine go_tblIn 441 dL_law_33 (by decide) (by decide) rfl (by decide) ?_
          exact law_alive i hi6 hL c m hs cn sn (by omega) (by omega) next
        | 10, _ =>
          refine go_tblIn 475 dL_law_33 (by decide) (by decide) rfl (by decide) ?_
          exact law_lives i hi6 hL c m hs cn sn (by omega) (by omega) next
        | 11, _ =>
          refine go_tblIn 499 dL_law_33 (by decide) (by decide) rfl (by decide) ?_
          exact law_harm i hi6 hL c m hs cn sn (by omega) (by omega) next
        | 12, _ =>
          refine go_tblIn 523 dL_law_33 (by decide) (by decide) rfl (by decide) ?_
          exact law_worst i hi6 hL c m hs cn sn (by omega) (by omega) next
        | 13, _ =>
          refine go_tblIn 536 dL_law_33 (by decide) (by decide) rfl (by decide) ?_
          exact law_fate i hi6 hL c m hs cn sn (by omega) (by omega) next
        | 14, _ =>
          refine go_tblIn 559 dL_law_33 (by decide) (by decide) rfl (by decide) ?_
          exact law_order i hi6 hL c m hs cn sn (by omega) (by omega) next
        | 15, _ =>
          refine go_tblIn 582 dL_law_33 (by decide) (by decide) rfl (by decide) ?_
          exact law_best i hi6 hL c m hs cn sn (by omega) (by omega) next
        | 16, _ =>
          refine go_tblIn 606 dL_law_33 (by decide) (by decide) rfl (by decide) ?_
          exact law_price i hi6 hL c m hs cn sn (by omega) (by omega) next
        | 17, _ =>
          refine go_tblIn 619 dL_law_33 (by decide) (by decide) rfl (by decide) ?_
          exact law_rule i hi6 hL c m hs cn sn (by omega) (by omega) next
        | 18, _ =>
          refine go_tblIn 642 dL_law_33 (by decide) (by decide) rfl (by decide) ?_
          exact law_chain i hi6 hL c m hs cn sn (by omega) (by omega) next
        | 19, _ =>
          refine go_tblIn 665 dL_law_33 (by decide) (by decide) rfl (by decide) ?_
          exact law_seen i hi6 hL c m hs cn sn (by omega) (by omega) next
        | 20, _ =>
          refine go_tblIn 698 dL_law_33 (by decide) (by decide) rfl (by decide) ?_
          exact law_forget i hi6 hL c m hs cn sn (by omega) (by omega) next
        | 21, _ =>
          refine go_tblIn 711 dL_law_33 (by decide) (by decide) rfl (by decide) ?_
          exact law_read i hi6 hL c m hs cn sn (by omega) (by omega) next
        | 22, _ =>
          refine go_tblIn 734 dL_law_33 (by decide) (by decide) rfl (by decide) ?_
          exact law_bribes i hi6 hL c m hs cn sn (by omega) (by omega) next
        | 23, _ =>
          refine go_tblIn 747 dL_law_33 (by decide) (by decide) rfl (by decide) ?_
          exact law_kinds i hi6 hL c m hs cn sn (by omega) (by omega) next
        | 24, _ =>
          refine go_tblIn 770 dL_law_33 (by decide) (by decide) rfl (by decide) ?_
          exact law_ask i hi6 hL c m hs cn sn (by omega) (by omega) next
        | 25, _ =>
          refine go_tblIn 783 dL_law_33 (by decide) (by decide) rfl (by decide) ?_
          exact law_gaols i hi6 hL c m hs cn sn (by omega) (by omega) next
        | 26, _ =>
          refine go_tblIn 826 dL_law_33 (by decide) (by decide) rfl (by decide) ?_
          exact law_sheet i hi6 hL c m hs cn sn (by omega) (by omega) next
        | 27, _ =>
          refine go_tblIn 869 dL_law_33 (by decide) (by decide) rfl (by decide) ?_
          exact law_lose i hi6 hL c m hs cn sn (by omega) (by omega) next
        | 28, _ =>
          refine go_tblIn 892 dL_law_33 (by decide) (by decide) rfl (by decide) ?_
          exact law_lay i hi6 hL c m hs cn sn (by omega) (by omega) next
        | 29, _ =>
          refine go_tblIn 945 dL_law_33 (by decide) (by decide) rfl (by decide) ?_
          exact law_get i hi6 hL c m hs cn sn (by omega) (by omega) next
        | 30, _ =>
          refine go_tblIn 988 dL_law_33 (by decide) (by decide) rfl (by decide) ?_
          exact law_copy i hi6 hL c m hs cn sn (by omega) (by omega) next
        | 31, _ =>
          refine go_tblIn 1051 dL_law_33 (by decide) (by decide) rfl (by decide) ?_
          exact law_write i hi6 hL c m hs cn sn (by omega) (by omega) next
        | 32, _ =>
          refine go_tblIn 1074 dL_law_33 (by decide) (by decide) rfl (by decide) ?_
          exact law_count i hi6 hL c m hs cn sn (by omega) (by omega) next
        | 33, _ =>
          refine go_tblIn 1097 dL_law_33 (by decide) (by decide) rfl (by decide) ?_
          exact law_digest i hi6 hL c m hs cn sn (by omega) (by omega) next
        | j + 34, h => exact absurd h (by omega)
theorem sim_start (ft2 : Nat → Int32) (hft : ∀ i, i < 8 → ft2 i = -1) : Sim (cwd (0, (fun _ => 0)) (0, (fun _ => 0)) (0, -1, (fun _ => 0)) (0, -1, (fun _ => 0)) (5, 5, 5) (0, 5, 0, (fun _ => 0), (fun _ => 0), upd (fun _ => 0) 0 5, upd (fun _ => 0) 0 0, vp_updL (fun _ => 0) 0 1, upd (fun _ => 0) 0 0, ft2) (0, 0, 0, (fun _ => 0), (fun _ => 0), (fun _ => 0), (fun _ => 0), (fun _ => 0), (fun _ => 0), (fun _ => 0)) (0, 0, 0, 0, 0, 0, 0, (fun _ => 0), (fun _ => 0), (fun _ => 0), (fun _ => 0)) (0, (fun _ => 0), (fun _ => 0)) (1, 0, 0, (fun _ => 0)) (1, 0, 0, (fun _ => 0)) (1, 0, 0, (fun _ => 0)) (1, 0, 0, (fun _ => 0)) (fun _ => 0) 0) (mwd U00 0 ((fun _ => 0), (fun _ => 0)) (0, (fun _ => 0)) (0, (fun _ => 0)) se00 ((fun _ => 0), (fun _ => 0), (fun _ => 0), (fun _ => 0)) ((fun _ => 0), (fun _ => 0), (fun _ => 0), (fun _ => 0), (fun _ => 0), 0, 0) (0, (fun _ => 0)) (fun _ => 0) 0) := by
  refine sim_of ⟨Nat.zero_le _, Nat.zero_le _, ⟨rfl, rfl, fun f k hf => absurd hf (Nat.not_lt_zero f)⟩, ⟨rfl, rfl, fun i hi => absurd hi (Nat.not_lt_zero i)⟩, ⟨by decide, by decide, by decide, by decide⟩, ⟨rfl, rfl, fun t ht => absurd ht (Nat.not_lt_zero t), fun t ht => ?_, fun f hf => hft f hf, rfl⟩, Or.inl rfl, ⟨Nat.zero_le _, fun j hj => absurd hj (Nat.not_lt_zero j), rfl, fun j hj => absurd hj (Nat.not_lt_zero j)⟩, ⟨rfl, fun i hi => absurd hi (Nat.not_lt_zero i)⟩, ⟨rfl, fun i hi => absurd hi (Nat.not_lt_zero i)⟩, ⟨by decide, by decide, rfl, rfl, by decide, by decide, by decide, rfl, rfl, rfl⟩, ⟨Nat.zero_le _, rfl, Or.inl ⟨by decide, by show (-1 : Int32) < 0; decide⟩⟩, ⟨Nat.zero_le _, rfl, Or.inl ⟨by decide, by show (-1 : Int32) < 0; decide⟩⟩, ⟨Nat.zero_le _, rfl, Or.inl ⟨by decide, by show (-1 : Int32) < 0; decide⟩⟩, ⟨Nat.zero_le _, rfl, Or.inl ⟨by decide, by show (-1 : Int32) < 0; decide⟩⟩⟩
  have ht : t = 0 := Nat.le_zero.mp ht
  subst ht
  exact ⟨rfl, rfl, rfl, rfl⟩
set_option maxRecDepth 100000 in
set_option maxHeartbeats 4000000 in
theorem law_go {nm : String} {b Ln : Nat} {xs : Nat → Int32} (hL : Ln ≤ 384) : Go (XL b Ln xs) (ML nm) QL 0 0 0 0 [some (.ref sid), none, none, none] [] [] := by
  refine go_new (ci := 9) (nw := 0) [.null, .null, .null, .null, .null, .null, .null, .null, .null, .null, .null, .int 0] dL_law_0 clL_7 it_X11 in_X11 rfl (fun j hj => by match j, hj with | 0, _ => rfl | 1, _ => rfl | 2, _ => rfl | 3, _ => rfl | 4, _ => rfl | 5, _ => rfl | 6, _ => rfl | 7, _ => rfl | 8, _ => rfl | 9, _ => rfl | 10, _ => rfl | 11, _ => rfl) (fun _ => rfl) (Nat.le_of_ble_eq_true rfl) (Nat.le_of_ble_eq_true rfl) rfl (by decide) rfl ?_
  refine go_dup dL_law_3 rfl ?_
  refine go_callAq (z := MX11_init) [0] dL_law_4 lL_9 sX11_init rfl ev_X11_init rfl rfl rfl rfl rfl rfl rfl (fun v w1 h => ?_) (fun w1 h => ?_)
  · obtain ⟨rfl, ft2, rfl, -⟩ := h
    exact ⟨rfl, Nat.le_of_ble_eq_true rfl, blt_lt rfl, rfl⟩
  obtain ⟨-, ft2, rfl, hft⟩ := h
  suffices hh : Go (XL b Ln xs) (ML nm) QL 0 44 3425 7 [some (.ref sid), none, none, none] [.ref 0] (cwd (0, (fun _ => 0)) (0, (fun _ => 0)) (0, -1, (fun _ => 0)) (0, -1, (fun _ => 0)) (5, 5, 5) (0, 5, 0, (fun _ => 0), (fun _ => 0), upd (fun _ => 0) 0 5, upd (fun _ => 0) 0 0, vp_updL (fun _ => 0) 0 1, upd (fun _ => 0) 0 0, ft2) (0, 0, 0, (fun _ => 0), (fun _ => 0), (fun _ => 0), (fun _ => 0), (fun _ => 0), (fun _ => 0), (fun _ => 0)) (0, 0, 0, 0, 0, 0, 0, (fun _ => 0), (fun _ => 0), (fun _ => 0), (fun _ => 0)) (0, (fun _ => 0), (fun _ => 0)) (1, 0, 0, (fun _ => 0)) (1, 0, 0, (fun _ => 0)) (1, 0, 0, (fun _ => 0)) (1, 0, 0, (fun _ => 0)) (fun _ => 0) 0) from hh
  refine go_astore_n dL_law_7 (show 1 < 4 by decide) ?_
  refine go_new (ci := 10) (nw := 44) [.null, .null, .null, .null, .int 0, .null, .null, .int 0, .null, .int 0, .null, .null, .null, .null, .null, .null, .null, .null, .null, .null, .null, .int 0, .long 0, .int 0, .null, .null, .int 0] dL_law_8 clL_10 it_X12 in_X12 rfl (fun j hj => by match j, hj with | 0, _ => rfl | 1, _ => rfl | 2, _ => rfl | 3, _ => rfl | 4, _ => rfl | 5, _ => rfl | 6, _ => rfl | 7, _ => rfl | 8, _ => rfl | 9, _ => rfl | 10, _ => rfl | 11, _ => rfl | 12, _ => rfl | 13, _ => rfl | 14, _ => rfl | 15, _ => rfl | 16, _ => rfl | 17, _ => rfl | 18, _ => rfl | 19, _ => rfl | 20, _ => rfl | 21, _ => rfl | 22, _ => rfl | 23, _ => rfl | 24, _ => rfl | 25, _ => rfl | 26, _ => rfl | j + 27, h => exact absurd h (by omega)) (fun _ => rfl) (Nat.le_of_ble_eq_true rfl) (Nat.le_of_ble_eq_true rfl) rfl (by decide) rfl ?_
  refine go_dup dL_law_11 rfl ?_
  refine go_callA (z := MX12_init) [44] (LW (cwd (0, (fun _ => 0)) (0, (fun _ => 0)) (0, -1, (fun _ => 0)) (0, -1, (fun _ => 0)) (5, 5, 5) (0, 5, 0, (fun _ => 0), (fun _ => 0), upd (fun _ => 0) 0 5, upd (fun _ => 0) 0 0, vp_updL (fun _ => 0) 0 1, upd (fun _ => 0) 0 0, ft2) (0, 0, 0, (fun _ => 0), (fun _ => 0), (fun _ => 0), (fun _ => 0), (fun _ => 0), (fun _ => 0), (fun _ => 0)) (0, 0, 0, 0, 0, 0, 0, (fun _ => 0), (fun _ => 0), (fun _ => 0), (fun _ => 0)) (0, (fun _ => 0), (fun _ => 0)) (1, 0, 0, (fun _ => 0)) (1, 0, 0, (fun _ => 0)) (1, 0, 0, (fun _ => 0)) (1, 0, 0, (fun _ => 0)) (fun _ => 0) 0) (mwd U00 0 ((fun _ => 0), (fun _ => 0)) (0, (fun _ => 0)) (0, (fun _ => 0)) se00 ((fun _ => 0), (fun _ => 0), (fun _ => 0), (fun _ => 0)) ((fun _ => 0), (fun _ => 0), (fun _ => 0), (fun _ => 0), (fun _ => 0), 0, 0) (0, (fun _ => 0)) (fun _ => 0) 0)) dL_law_12 lL_12 sX12_init rfl ev_X12_init rfl rfl rfl rfl rfl rfl rfl rfl rfl rfl rfl ?_
  refine go_astore_n dL_law_15 (show 2 < 4 by decide) ?_
  refine go_iconst (0) dL_law_16 (by decide) ?_
  refine go_istore_n dL_law_17 (show 3 < 4 by decide) ?_
  refine go_widen (cn2 := 1000) (sn2 := 10000) (Nat.le_of_ble_eq_true rfl) (Nat.le_of_ble_eq_true rfl) ?_
  exact law_loop hL 65 0 1000 10000 _ _ (by omega) (by decide) (by decide) (by decide) (sim_start ft2 hft)
theorem ao_X6 : Cond.arrayOver (.object RX6) ∈ lw_tbl := tm_1 214 rfl
theorem nsW_in : ∀ w ∈ nsW, w ∈ lw_tbl := by
  intro w hw
  simp only [nsW, List.mem_cons, List.not_mem_nil, or_false] at hw
  rcases hw with rfl | rfl | rfl | rfl | rfl | rfl | rfl
  · exact lX11_23
  · exact lX11_30
  · exact lX11_37
  · exact lX11_44
  · exact lX11_54
  · exact lX11_61
  · exact lX11_76
/-- what the tables say at the law's start -/
theorem kk_start {s : State} {args : Array Value} (hts : ∀ w ∈ lw_tbl, w.before args s = true) : ∃ (D : va_G) (tC : Nat → Nat), KK D tC s := by
  have hts2 : ∀ w ∈ tb, w.before args s = true := fun w hw => hts w (tb_out hw).1
  have hkn : ∀ (ci : Nat) (q : vw_C), vwCl[ci]? = some q → ∃ (cC : ClassId) (iS : Nat → Nat), u_Kn s q.1 q.2.1 q.2.2 cC iS := by
    intro ci q hq
    match ci, hq with
    | 0, hq => cases hq; exact u_known hts2 (ck 0 _ _ _ rfl).1 (hts2 _ it_X0)
    | 1, hq => cases hq; exact u_known hts2 (ck 1 _ _ _ rfl).1 (hts2 _ it_X2)
    | 2, hq => cases hq; exact u_known hts2 (ck 2 _ _ _ rfl).1 (hts2 _ it_X3)
    | 3, hq => cases hq; exact u_known hts2 (ck 3 _ _ _ rfl).1 (hts2 _ it_X4)
    | 4, hq => cases hq; exact u_known hts2 (ck 4 _ _ _ rfl).1 (hts2 _ it_X5)
    | 5, hq => cases hq; exact u_known hts2 (ck 5 _ _ _ rfl).1 (hts2 _ it_X6)
    | 6, hq => cases hq; exact u_known hts2 (ck 6 _ _ _ rfl).1 (hts2 _ it_X7)
    | 7, hq => cases hq; exact u_known hts2 (ck 7 _ _ _ rfl).1 (hts2 _ it_X9)
    | 8, hq => cases hq; exact u_known hts2 (ck 8 _ _ _ rfl).1 (hts2 _ it_X10)
    | 9, hq => cases hq; exact u_known hts2 (ck 9 _ _ _ rfl).1 (hts2 _ it_X11)
    | 10, hq => cases hq; exact u_known hts2 (ck 10 _ _ _ rfl).1 (hts2 _ it_X12)
    | ci + 11, hq => simp at hq
  have hh : ∀ k : Nat, ∃ (cC : ClassId) (iS : Nat → Nat), ∀ q : vw_C, vwCl[k]? = some q → u_Kn s q.1 q.2.1 q.2.2 cC iS := fun k => by
    cases hk : vwCl[k]? with
    | none => exact ⟨0, fun _ => 0, fun q hq => by cases hq⟩
    | some q =>
      obtain ⟨x1, x2, x3⟩ := hkn k q hk
      exact ⟨x1, x2, fun q2 h2 => by cases h2; exact x3⟩
  obtain ⟨aI, kI, cI, i1, i2, i3⟩ := Cond.arrayClass_spec (hts2 _ ac_int)
  obtain ⟨aL, kL, cL, l1, l2, l3⟩ := Cond.arrayClass_spec (hts2 _ ac_long)
  obtain ⟨cR, aR, kR, r1, r2, r3, r4, r5⟩ := Cond.arrayOver_spec (hts _ ao_X6)
  refine ⟨(fun k => Classical.choose (hh k), fun k => Classical.choose (Classical.choose_spec (hh k))), fun k => if k = 0 then aI else if k = 1 then aL else aR, ⟨fun k q hq => Classical.choose_spec (Classical.choose_spec (hh k)) q hq, fun k q hq => ?_⟩, fun w hw => va_Nw.of (nsW_on w hw) (hts w (nsW_in w hw)), va_AO.of (hts _ ao_X6)⟩
  match k, hq with
  | 0, hq =>
    cases hq
    exact ⟨fun n z => ⟨(fun k h => by cases h), kI, i2, cI, i3⟩, i1⟩
  | 1, hq =>
    cases hq
    exact ⟨fun n z => ⟨(fun k h => by cases h), kL, l2, cL, l3⟩, l1⟩
  | 2, hq =>
    cases hq
    exact ⟨fun n z => ⟨(fun k h => by cases h), kR, r3, cR, r4⟩, kR, cR, r3, r4, r1, r5⟩
  | k + 3, hq => simp at hq
