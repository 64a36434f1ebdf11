/-! what comes of THE NAMES, as told: by a gang (g felons, their parts pf) and names nm; s0, goal, br: how strong, wins, bribe -/
def winI (c : Int32) : Int32 := if c = 1 ∨ c = 2 ∨ c = 3 then 1 else 0
def nmd (nm : Nat → Nat) : Nat → Nat → Bool
  | 0, _ => false
  | i + 1, f => nmd nm i f || nm i == f
def cmv (g : Nat) (pf : Nat → Int32) (nm : Nat → Nat) (goal br k : Int32) (i : Nat) : Int32 := if goal ≤ k ∨ g ≤ nm i ∨ nmd nm i (nm i) = true then 0 else ansI (pf (5 * nm i)) (pf (5 * nm i + 3)) (pf (5 * nm i + 2)) br
def wst (g : Nat) (pf : Nat → Int32) (nm : Nat → Nat) (s0 goal br : Int32) : Nat → Int32 × Int32
  | 0 => (s0, 0)
  | i + 1 => (strI (cmv g pf nm goal br (wst g pf nm s0 goal br i).2 i) (wst g pf nm s0 goal br i).1 s0, (wst g pf nm s0 goal br i).2 + winI (cmv g pf nm goal br (wst g pf nm s0 goal br i).2 i))
def wC (g : Nat) (pf : Nat → Int32) (nm : Nat → Nat) (s0 goal br : Int32) (i : Nat) : Int32 := cmv g pf nm goal br (wst g pf nm s0 goal br i).2 i
def wX (g : Nat) (pf : Nat → Int32) (nm : Nat → Nat) (s0 goal br : Int32) (i : Nat) : Int32 := sixI (wC g pf nm s0 goal br i) (wst g pf nm s0 goal br i).1 (pf (5 * nm i + 1))
def wA (g : Nat) (pf : Nat → Int32) (nm : Nat → Nat) (s0 goal br : Int32) : Nat → Int64
  | 0 => 1
  | i + 1 => if winI (wC g pf nm s0 goal br i) = 0 then wA g pf nm s0 goal br i else wA g pf nm s0 goal br i * (wX g pf nm s0 goal br i).toInt64
def wN (g : Nat) (pf : Nat → Int32) (nm : Nat → Nat) (s0 goal br : Int32) : Nat → Int32
  | 0 => 0
  | i + 1 => if wC g pf nm s0 goal br i = 3 ∧ pf (5 * nm i + 3) = 0 then wN g pf nm s0 goal br i + 1 else wN g pf nm s0 goal br i
def wH (g : Nat) (pf : Nat → Int32) (nm : Nat → Nat) (s0 goal br : Int32) : Nat → Int64
  | 0 => 0
  | i + 1 => if wC g pf nm s0 goal br i = 3 ∧ pf (5 * nm i + 3) = 0 then wH g pf nm s0 goal br i + wA g pf nm s0 goal br (i + 1) <<< ((4 * (8 - (wst g pf nm s0 goal br (i + 1)).2)).toInt64 &&& 63) else wH g pf nm s0 goal br i
def wF (g : Nat) (pf : Nat → Int32) (nm : Nat → Nat) (s0 goal br : Int32) : Nat → Nat → Int32
  | 0, _ => -1
  | i + 1, f => if nmd nm i f = false ∧ nm i = f then wC g pf nm s0 goal br i else wF g pf nm s0 goal br i f
theorem win1 {c : Int32} (h : ¬ winI c = 0) : winI c = 1 := by
  unfold winI at h ⊢
  split <;> simp_all
theorem ans_ne (k u g b : Int32) : ¬ ansI k u g b = -1 := by
  unfold ansI
  repeat' split
  all_goals decide
theorem wC_ne (g : Nat) (pf : Nat → Int32) (nm : Nat → Nat) (s0 goal br : Int32) (i : Nat) : ¬ wC g pf nm s0 goal br i = -1 := by
  unfold wC cmv
  split
  · decide
  · exact ans_ne _ _ _ _
theorem wF_ne (g : Nat) (pf : Nat → Int32) (nm : Nat → Nat) (s0 goal br : Int32) (i f : Nat) : wF g pf nm s0 goal br i f = -1 ↔ nmd nm i f = false := by
  induction i with
  | zero => simp [wF, nmd]
  | succ i ih =>
    rw [wF, nmd]
    by_cases h : nmd nm i f = false
    · by_cases h2 : nm i = f
      · rw [if_pos ⟨h, h2⟩]
        simp [wC_ne, h2]
      · rw [if_neg (fun q => h2 q.2), ih]
        simp [h, h2]
    · rw [if_neg (fun q => h q.1), ih]
      simp at h
      simp [h]
def fwI (sx : Nat → Int32) : Nat → Int32 × Int32
  | 0 => (-1, 17)
  | i + 1 => if (fwI sx i).2 ≤ sx i then fwI sx i else (nI i, sx i)
def fgI (cm : Nat → Int32) : Nat → Int32
  | 0 => 0
  | i + 1 => if cm i = 3 then fgI cm i + 1 else fgI cm i
def nvI (ft : Nat → Int32) : Nat → Int32
  | 0 => 0
  | i + 1 => if ft i ≤ 0 then nvI ft i else nvI ft i + 1
def plI (cm sx : Nat → Int32) : Nat → Nat → Int32 → Nat × Int32
  | 0, i, s => (i, s)
  | d + 1, i, s => if cm i = 3 then (if lotI s < sx i then plI cm sx d (i + 1) (seedI s) else (i, seedI s)) else plI cm sx d (i + 1) s
set_option maxRecDepth 100000 in
theorem ev_X0_setOut (len goal : Int32) (harm : Int64) (cm sx sg wn inn ft : Nat → Int32) (ab : Nat → Int64) (s g2 : Int32) : Ev MX0_setOut [.ref 0, .int s, .int g2] [zO 0 [.ref 1, .ref 2, .ref 3, .ref 4, .ref 5, .ref 6, .ref 7, .int len, .int goal, .long harm], zI 12 cm, zI 12 sx, zI 13 sg, zI 13 wn, zL 13 ab, zI 13 inn, zI 8 ft] (fun v w => v = none ∧ ∃ ft2 : Nat → Int32, w = [zO 0 [.ref 1, .ref 2, .ref 3, .ref 4, .ref 5, .ref 6, .ref 7, .int 0, .int g2, .long 0], zI 12 cm, zI 12 sx, zI 13 (upd sg 0 s), zI 13 (upd wn 0 0), zL 13 (vp_updL ab 0 1), zI 13 (upd inn 0 0), zI 8 ft2] ∧ ∀ i, i < 8 → ft2 i = -1) := by
  refine ev_of bX0_setOut [some (.ref 0), some (.int s), some (.int g2), none] (Nat.le_of_ble_eq_true rfl) rfl ?_
  refine go_aload_n dX0_setOut_0 rfl ?_
  refine go_iconst (0) dX0_setOut_1 (by decide) ?_
  refine go_putf fX0_34 dX0_setOut_2 rfl (fun _ _ _ h => by cases h; rfl) (fun _ => rfl) (fun _ => rfl) (Nat.le_of_ble_eq_true rfl) ?_
  refine go_aload_n dX0_setOut_5 rfl ?_
  refine go_iload_n dX0_setOut_6 rfl ?_
  refine go_putf fX0_38 dX0_setOut_7 rfl (fun _ _ _ h => by cases h; rfl) (fun _ => rfl) (fun _ => rfl) (Nat.le_of_ble_eq_true rfl) ?_
  refine go_aload_n dX0_setOut_10 rfl ?_
  refine go_lconst 0 dX0_setOut_11 (by decide) ?_
  refine go_putf fX0_41 dX0_setOut_12 rfl (fun _ _ _ h => by cases h; rfl) (fun _ => rfl) (fun _ => rfl) (Nat.le_of_ble_eq_true rfl) ?_
  refine go_aload_n dX0_setOut_15 rfl ?_
  refine go_getf fX0_18 dX0_setOut_16 rfl rfl ?_
  refine go_iconst (0) dX0_setOut_19 (by decide) ?_
  refine go_iload_n dX0_setOut_20 rfl ?_
  refine go_iast dX0_setOut_21 rfl (vp_in_nI (n := 0) (by decide) (by decide)) ?_
  refine go_aload_n dX0_setOut_22 rfl ?_
  refine go_getf fX0_21 dX0_setOut_23 rfl rfl ?_
  refine go_iconst (0) dX0_setOut_26 (by decide) ?_
  refine go_iconst (0) dX0_setOut_27 (by decide) ?_
  refine go_iast dX0_setOut_28 rfl (vp_in_nI (n := 0) (by decide) (by decide)) ?_
  refine go_aload_n dX0_setOut_29 rfl ?_
  refine go_getf fX0_24 dX0_setOut_30 rfl rfl ?_
  refine go_iconst (0) dX0_setOut_33 (by decide) ?_
  refine go_lconst 1 dX0_setOut_34 (by decide) ?_
  refine go_last dX0_setOut_35 rfl (vp_in_nI (n := 0) (by decide) (by decide)) ?_
  refine go_aload_n dX0_setOut_36 rfl ?_
  refine go_getf fX0_28 dX0_setOut_37 rfl rfl ?_
  refine go_iconst (0) dX0_setOut_40 (by decide) ?_
  refine go_iconst (0) dX0_setOut_41 (by decide) ?_
  refine go_iast dX0_setOut_42 rfl (vp_in_nI (n := 0) (by decide) (by decide)) ?_
  refine go_iconst (0) dX0_setOut_43 (by decide) ?_
  refine go_istore_n dX0_setOut_44 (by decide) ?_
  suffices loop : ∀ (d i : Nat) (ft : Nat → Int32), i + d = 8 → (∀ j, j < i → ft j = -1) → Go X0 MX0_setOut (fun v w => v = none ∧ ∃ ft2 : Nat → Int32, w = [zO 0 [.ref 1, .ref 2, .ref 3, .ref 4, .ref 5, .ref 6, .ref 7, .int 0, .int g2, .long 0], zI 12 cm, zI 12 sx, zI 13 (upd sg 0 s), zI 13 (upd wn 0 0), zL 13 (vp_updL ab 0 1), zI 13 (upd inn 0 0), zI 8 ft2] ∧ ∀ i, i < 8 → ft2 i = -1) 8 0 0 45 [some (.ref 0), some (.int s), some (.int g2), some (.int (nI i))] [] [zO 0 [.ref 1, .ref 2, .ref 3, .ref 4, .ref 5, .ref 6, .ref 7, .int 0, .int g2, .long 0], zI 12 cm, zI 12 sx, zI 13 (upd sg 0 s), zI 13 (upd wn 0 0), zL 13 (vp_updL ab 0 1), zI 13 (upd inn 0 0), zI 8 ft] from loop 8 0 ft (by omega) (fun j h => absurd h (by omega))
  intro d
  induction d with
  | zero =>
    intro i f hi hr
    refine go_iload_n dX0_setOut_45 rfl ?_
    refine go_bipush (8) dX0_setOut_46 (by decide) ?_
    refine go_icmp_ge 64 dX0_setOut_48 (by decide) (fun _ => ?_) (fun c_48 => absurd (nI_le (a := 8) (by omega) (by omega)) c_48)
    refine go_return dX0_setOut_64 rfl (Nat.le_of_ble_eq_true rfl) (Nat.le_of_ble_eq_true rfl) ?_
    exact ⟨rfl, f, rfl, fun j h => hr j (by omega)⟩
  | succ d ih =>
    intro i f hi hr
    refine go_iload_n dX0_setOut_45 rfl ?_
    refine go_bipush (8) dX0_setOut_46 (by decide) ?_
    refine go_icmp_ge 64 dX0_setOut_48 (by decide) (fun c_48 => absurd c_48 (nI_ge (b := 8) (by omega) (by omega))) (fun _ => ?_)
    refine go_aload_n dX0_setOut_51 rfl ?_
    refine go_getf fX0_31 dX0_setOut_52 rfl rfl ?_
    refine go_iload_n dX0_setOut_55 rfl ?_
    refine go_iconst (-1) dX0_setOut_56 (by decide) ?_
    refine go_iast dX0_setOut_57 rfl (vp_in_nI (by omega) (by decide)) ?_
    refine go_iincN (1) dX0_setOut_58 rfl (by decide) (by decide) ?_
    refine go_goto 45 dX0_setOut_61 (by decide) ?_
    rw [nI_1]
    simp only [nI_clamp (show i < 2 ^ 31 by omega)]
    exact ih (i + 1) (upd f i (-1)) (by omega) (fun j h => by
      by_cases hj : j = i
      · subst hj; exact pk_us
      · rw [pk_un hj]; exact hr j (by omega))
set_option maxRecDepth 100000 in
theorem ev_X0_markFate (len goal : Int32) (harm : Int64) (cm sx sg wn inn ft : Nat → Int32) (ab : Nat → Int64) (j : Nat) (hj : j < 8) (c : Int32) : Ev MX0_markFate [.ref 0, .int (nI j), .int c] [zO 0 [.ref 1, .ref 2, .ref 3, .ref 4, .ref 5, .ref 6, .ref 7, .int len, .int goal, .long harm], zI 12 cm, zI 12 sx, zI 13 sg, zI 13 wn, zL 13 ab, zI 13 inn, zI 8 ft] (Rw none [zO 0 [.ref 1, .ref 2, .ref 3, .ref 4, .ref 5, .ref 6, .ref 7, .int len, .int goal, .long harm], zI 12 cm, zI 12 sx, zI 13 sg, zI 13 wn, zL 13 ab, zI 13 inn, zI 8 (if ft j = -1 then upd ft j c else ft)]) := by
  refine ev_of bX0_markFate [some (.ref 0), some (.int (nI j)), some (.int c)] (Nat.le_of_ble_eq_true rfl) rfl ?_
  refine go_iload_n dX0_markFate_0 rfl ?_
  refine go_if_lt 27 dX0_markFate_1 (by decide) (fun c_1 => absurd c_1 (nI_pos (by omega))) (fun _ => ?_)
  refine go_iload_n dX0_markFate_4 rfl ?_
  refine go_bipush (8) dX0_markFate_5 (by decide) ?_
  refine go_icmp_ge 27 dX0_markFate_7 (by decide) (fun c_7 => absurd c_7 (nI_ge (b := 8) hj (by decide))) (fun _ => ?_)
  refine go_aload_n dX0_markFate_10 rfl ?_
  refine go_getf fX0_31 dX0_markFate_11 rfl rfl ?_
  refine go_iload_n dX0_markFate_14 rfl ?_
  refine go_iald dX0_markFate_15 rfl (vp_in_nI hj (by decide)) ?_
  rw [nI_clamp (show j < 2 ^ 31 by omega)]
  refine go_iconst (-1) dX0_markFate_16 (by decide) ?_
  refine go_icmp_ne 27 dX0_markFate_17 (by decide) (fun c_17 => ?_) (fun c_17 => ?_)
  · refine go_return dX0_markFate_27 rfl (Nat.le_of_ble_eq_true rfl) (Nat.le_of_ble_eq_true rfl) ?_
    refine ⟨rfl, ?_⟩
    try simp only [nI_clamp (show j < 2 ^ 31 by omega)]
    simp [c_17]
  · refine go_aload_n dX0_markFate_20 rfl ?_
    refine go_getf fX0_31 dX0_markFate_21 rfl rfl ?_
    refine go_iload_n dX0_markFate_24 rfl ?_
    refine go_iload_n dX0_markFate_25 rfl ?_
    refine go_iast dX0_markFate_26 rfl (vp_in_nI hj (by decide)) ?_
    refine go_return dX0_markFate_27 rfl (Nat.le_of_ble_eq_true rfl) (Nat.le_of_ble_eq_true rfl) ?_
    refine ⟨rfl, ?_⟩
    try simp only [nI_clamp (show j < 2 ^ 31 by omega)]
    simp [c_17]
theorem upd_upd (f : Nat → Int32) (k : Nat) (x y : Int32) : upd (upd f k x) k y = upd f k y := by
  funext j
  simp only [upd]
  split <;> rfl
set_option maxRecDepth 100000 in
theorem ev_X0_stepBehind (len goal : Int32) (harm : Int64) (cm sx sg wn inn ft : Nat → Int32) (ab : Nat → Int64) (j : Nat) (hj : j < 12) (foe q : Int32) : Ev MX0_stepBehind [.ref 0, .int (nI j), .int foe, .int q] [zO 0 [.ref 1, .ref 2, .ref 3, .ref 4, .ref 5, .ref 6, .ref 7, .int len, .int goal, .long harm], zI 12 cm, zI 12 sx, zI 13 sg, zI 13 wn, zL 13 ab, zI 13 inn, zI 8 ft] (Rw none [zO 0 [.ref 1, .ref 2, .ref 3, .ref 4, .ref 5, .ref 6, .ref 7, .int len, .int goal, .long (if cm j = 3 ∧ ¬ q = 0 then harm + (if winI (cm j) = 0 then ab j else ab j * (sixI (cm j) (sg j) foe).toInt64) <<< ((4 * (8 - (wn j + winI (cm j)))).toInt64 &&& 63) else harm)], zI 12 cm, zI 12 (upd sx j (sixI (cm j) (sg j) foe)), zI 13 (upd sg (j + 1) (strI (cm j) (sg j) (sg 0))), zI 13 (upd wn (j + 1) (wn j + winI (cm j))), zL 13 (vp_updL ab (j + 1) (if winI (cm j) = 0 then ab j else ab j * (sixI (cm j) (sg j) foe).toInt64)), zI 13 (upd inn (j + 1) (if cm j = 3 ∧ ¬ q = 0 then inn j + 1 else inn j)), zI 8 ft]) := by
  refine ev_of bX0_stepBehind [some (.ref 0), some (.int (nI j)), some (.int foe), some (.int q), none] (Nat.le_of_ble_eq_true rfl) rfl ?_
  refine go_aload_n dX0_stepBehind_0 rfl ?_
  refine go_getf fX0_15 dX0_stepBehind_1 rfl rfl ?_
  refine go_iload_n dX0_stepBehind_4 rfl ?_
  refine go_aload_n dX0_stepBehind_5 rfl ?_
  refine go_getf fX0_9 dX0_stepBehind_6 rfl rfl ?_
  refine go_iload_n dX0_stepBehind_9 rfl ?_
  refine go_iald dX0_stepBehind_10 rfl (vp_in_nI (n := j) (by omega) (by decide)) ?_
  rw [nI_clamp (show j < 2 ^ 31 by omega)]
  refine go_aload_n dX0_stepBehind_11 rfl ?_
  refine go_getf fX0_18 dX0_stepBehind_12 rfl rfl ?_
  refine go_iload_n dX0_stepBehind_15 rfl ?_
  refine go_iald dX0_stepBehind_16 rfl (vp_in_nI (n := j) (by omega) (by decide)) ?_
  rw [nI_clamp (show j < 2 ^ 31 by omega)]
  refine go_iload_n dX0_stepBehind_17 rfl ?_
  refine go_callSi (z := MX8_sixteenths) [] dX0_stepBehind_18 lX0_81 sX8_sixteenths (ev_X8_sixteenths (cm j) (sg j) foe) rfl rfl rfl rfl rfl rfl ?_
  refine go_iast dX0_stepBehind_21 rfl (vp_in_nI (n := j) (by omega) (by decide)) ?_
  refine go_aload_n dX0_stepBehind_22 rfl ?_
  refine go_getf fX0_18 dX0_stepBehind_23 rfl rfl ?_
  refine go_iload_n dX0_stepBehind_26 rfl ?_
  refine go_iconst (1) dX0_stepBehind_27 (by decide) ?_
  refine go_iadd dX0_stepBehind_28 ?_
  rw [show nI j + 1 = nI (j + 1) from nI_1 j]
  refine go_aload_n dX0_stepBehind_29 rfl ?_
  refine go_getf fX0_9 dX0_stepBehind_30 rfl rfl ?_
  refine go_iload_n dX0_stepBehind_33 rfl ?_
  refine go_iald dX0_stepBehind_34 rfl (vp_in_nI (n := j) (by omega) (by decide)) ?_
  rw [nI_clamp (show j < 2 ^ 31 by omega)]
  refine go_aload_n dX0_stepBehind_35 rfl ?_
  refine go_getf fX0_18 dX0_stepBehind_36 rfl rfl ?_
  refine go_iload_n dX0_stepBehind_39 rfl ?_
  refine go_iald dX0_stepBehind_40 rfl (vp_in_nI (n := j) (by omega) (by decide)) ?_
  rw [nI_clamp (show j < 2 ^ 31 by omega)]
  refine go_aload_n dX0_stepBehind_41 rfl ?_
  refine go_getf fX0_18 dX0_stepBehind_42 rfl rfl ?_
  refine go_iconst (0) dX0_stepBehind_45 (by decide) ?_
  refine go_iald dX0_stepBehind_46 rfl (vp_in_nI (n := 0) (by decide) (by decide)) ?_
  refine go_callSi (z := MX8_strongBehind) [] dX0_stepBehind_47 lX0_86 sX8_strongBehind (ev_X8_strongBehind (cm j) (sg j) (sg 0)) rfl rfl rfl rfl rfl rfl ?_
  refine go_iast dX0_stepBehind_50 rfl (vp_in_nI (n := j + 1) (by omega) (by decide)) ?_
  refine go_aload_n dX0_stepBehind_51 rfl ?_
  refine go_getf fX0_9 dX0_stepBehind_52 rfl rfl ?_
  refine go_iload_n dX0_stepBehind_55 rfl ?_
  refine go_iald dX0_stepBehind_56 rfl (vp_in_nI (n := j) (by omega) (by decide)) ?_
  rw [nI_clamp (show j < 2 ^ 31 by omega)]
  refine go_callSi (z := MX8_isWin) [] dX0_stepBehind_57 lX0_89 sX8_isWin (ev_X8_isWin (cm j)) rfl rfl rfl rfl rfl rfl ?_
  rw [show (if cm j = 1 ∨ cm j = 2 ∨ cm j = 3 then (1 : Int32) else 0) = winI (cm j) from rfl]
  refine go_istore dX0_stepBehind_60 (by decide) ?_
  refine go_aload_n dX0_stepBehind_62 rfl ?_
  refine go_getf fX0_21 dX0_stepBehind_63 rfl rfl ?_
  refine go_iload_n dX0_stepBehind_66 rfl ?_
  refine go_iconst (1) dX0_stepBehind_67 (by decide) ?_
  refine go_iadd dX0_stepBehind_68 ?_
  rw [show nI j + 1 = nI (j + 1) from nI_1 j]
  refine go_iload dX0_stepBehind_69 rfl ?_
  refine go_cut1 (J := 91) (fun v => v = wn j + winI (cm j)) (fun v_91 hv_91 => ?_) (fun kk_91 => ?_)
  case refine_2 =>
    refine go_if_eq 85 dX0_stepBehind_71 (by decide) (fun c_71 => ?_) (fun c_71 => ?_)
    · refine go_aload_n dX0_stepBehind_85 rfl ?_
      refine go_getf fX0_21 dX0_stepBehind_86 rfl rfl ?_
      refine go_iload_n dX0_stepBehind_89 rfl ?_
      refine go_iald dX0_stepBehind_90 rfl (vp_in_nI (n := j) (by omega) (by decide)) ?_
      exact kk_91 _ (by first | (rw [nI_clamp (show j < 2 ^ 31 by omega), win1 c_71]; done) | (rw [nI_clamp (show j < 2 ^ 31 by omega), c_71, Int32.add_zero]))
    · refine go_aload_n dX0_stepBehind_74 rfl ?_
      refine go_getf fX0_21 dX0_stepBehind_75 rfl rfl ?_
      refine go_iload_n dX0_stepBehind_78 rfl ?_
      refine go_iald dX0_stepBehind_79 rfl (vp_in_nI (n := j) (by omega) (by decide)) ?_
      refine go_iconst (1) dX0_stepBehind_80 (by decide) ?_
      refine go_iadd dX0_stepBehind_81 ?_
      refine go_goto 91 dX0_stepBehind_82 (by decide) ?_
      exact kk_91 _ (by first | (rw [nI_clamp (show j < 2 ^ 31 by omega), win1 c_71]; done) | (rw [nI_clamp (show j < 2 ^ 31 by omega), c_71, Int32.add_zero]))
  subst hv_91
  refine go_iast dX0_stepBehind_91 rfl (vp_in_nI (n := j + 1) (by omega) (by decide)) ?_
  refine go_aload_n dX0_stepBehind_92 rfl ?_
  refine go_getf fX0_24 dX0_stepBehind_93 rfl rfl ?_
  refine go_iload_n dX0_stepBehind_96 rfl ?_
  refine go_iconst (1) dX0_stepBehind_97 (by decide) ?_
  refine go_iadd dX0_stepBehind_98 ?_
  rw [show nI j + 1 = nI (j + 1) from nI_1 j]
  refine go_iload dX0_stepBehind_99 rfl ?_
  refine go_if_eq 121 dX0_stepBehind_101 (by decide) (fun c_101 => ?_) (fun c_101 => ?_)
  · refine go_aload_n dX0_stepBehind_121 rfl ?_
    refine go_getf fX0_24 dX0_stepBehind_122 rfl rfl ?_
    refine go_iload_n dX0_stepBehind_125 rfl ?_
    refine go_lald dX0_stepBehind_126 rfl (vp_in_nI (n := j) (by omega) (by decide)) ?_
    refine go_last dX0_stepBehind_127 rfl (vp_in_nI (n := j + 1) (by omega) (by decide)) ?_
    refine go_aload_n dX0_stepBehind_128 rfl ?_
    refine go_getf fX0_28 dX0_stepBehind_129 rfl rfl ?_
    refine go_iload_n dX0_stepBehind_132 rfl ?_
    refine go_iconst (1) dX0_stepBehind_133 (by decide) ?_
    refine go_iadd dX0_stepBehind_134 ?_
    rw [show nI j + 1 = nI (j + 1) from nI_1 j]
    refine go_aload_n dX0_stepBehind_135 rfl ?_
    refine go_getf fX0_28 dX0_stepBehind_136 rfl rfl ?_
    refine go_iload_n dX0_stepBehind_139 rfl ?_
    refine go_iald dX0_stepBehind_140 rfl (vp_in_nI (n := j) (by omega) (by decide)) ?_
    refine go_iast dX0_stepBehind_141 rfl (vp_in_nI (n := j + 1) (by omega) (by decide)) ?_
    refine go_aload_n dX0_stepBehind_142 rfl ?_
    refine go_getf fX0_9 dX0_stepBehind_143 rfl rfl ?_
    refine go_iload_n dX0_stepBehind_146 rfl ?_
    refine go_iald dX0_stepBehind_147 rfl (vp_in_nI (n := j) (by omega) (by decide)) ?_
    rw [nI_clamp (show j < 2 ^ 31 by omega)]
    refine go_iconst (3) dX0_stepBehind_148 (by decide) ?_
    refine go_icmp_ne 199 dX0_stepBehind_149 (by decide) (fun c_149 => ?_) (fun c_149 => ?_)
    · refine go_return dX0_stepBehind_199 rfl (Nat.le_of_ble_eq_true rfl) (Nat.le_of_ble_eq_true rfl) ?_
      refine ⟨rfl, ?_⟩
      simp only [nI_clamp (show j < 2 ^ 31 by omega), nI_clamp (show j + 1 < 2 ^ 31 by omega), pk_us, pk_uLs, upd_upd]
      first
        | (simp only [if_pos c_101, if_neg (show ¬ (cm j = 3 ∧ ¬ q = 0) from fun h => c_149 h.1)] <;> rfl)
        | (simp only [if_neg c_101, if_neg (show ¬ (cm j = 3 ∧ ¬ q = 0) from fun h => c_149 h.1)] <;> rfl)
        | (simp only [if_pos c_101, if_neg (show ¬ (cm j = 3 ∧ ¬ q = 0) from fun h => h.2 c_153)] <;> rfl)
        | (simp only [if_neg c_101, if_neg (show ¬ (cm j = 3 ∧ ¬ q = 0) from fun h => h.2 c_153)] <;> rfl)
        | (simp only [if_pos c_101, if_pos (show cm j = 3 ∧ ¬ q = 0 from ⟨c_149, c_153⟩)] <;> rfl)
        | (simp only [if_neg c_101, if_pos (show cm j = 3 ∧ ¬ q = 0 from ⟨c_149, c_153⟩)] <;> rfl)
    · refine go_iload_n dX0_stepBehind_152 rfl ?_
      refine go_if_eq 199 dX0_stepBehind_153 (by decide) (fun c_153 => ?_) (fun c_153 => ?_)
      · refine go_return dX0_stepBehind_199 rfl (Nat.le_of_ble_eq_true rfl) (Nat.le_of_ble_eq_true rfl) ?_
        refine ⟨rfl, ?_⟩
        simp only [nI_clamp (show j < 2 ^ 31 by omega), nI_clamp (show j + 1 < 2 ^ 31 by omega), pk_us, pk_uLs, upd_upd]
        first
          | (simp only [if_pos c_101, if_neg (show ¬ (cm j = 3 ∧ ¬ q = 0) from fun h => c_149 h.1)] <;> rfl)
          | (simp only [if_neg c_101, if_neg (show ¬ (cm j = 3 ∧ ¬ q = 0) from fun h => c_149 h.1)] <;> rfl)
          | (simp only [if_pos c_101, if_neg (show ¬ (cm j = 3 ∧ ¬ q = 0) from fun h => h.2 c_153)] <;> rfl)
          | (simp only [if_neg c_101, if_neg (show ¬ (cm j = 3 ∧ ¬ q = 0) from fun h => h.2 c_153)] <;> rfl)
          | (simp only [if_pos c_101, if_pos (show cm j = 3 ∧ ¬ q = 0 from ⟨c_149, c_153⟩)] <;> rfl)
          | (simp only [if_neg c_101, if_pos (show cm j = 3 ∧ ¬ q = 0 from ⟨c_149, c_153⟩)] <;> rfl)
      · refine go_aload_n dX0_stepBehind_156 rfl ?_
        refine go_getf fX0_28 dX0_stepBehind_157 rfl rfl ?_
        refine go_iload_n dX0_stepBehind_160 rfl ?_
        refine go_iconst (1) dX0_stepBehind_161 (by decide) ?_
        refine go_iadd dX0_stepBehind_162 ?_
        rw [show nI j + 1 = nI (j + 1) from nI_1 j]
        refine go_dup2 dX0_stepBehind_163 rfl rfl ?_
        refine go_iald dX0_stepBehind_164 rfl (vp_in_nI (n := j + 1) (by omega) (by decide)) ?_
        refine go_iconst (1) dX0_stepBehind_165 (by decide) ?_
        refine go_iadd dX0_stepBehind_166 ?_
        refine go_iast dX0_stepBehind_167 rfl (vp_in_nI (n := j + 1) (by omega) (by decide)) ?_
        refine go_aload_n dX0_stepBehind_168 rfl ?_
        refine go_dup dX0_stepBehind_169 rfl ?_
        refine go_getf fX0_41 dX0_stepBehind_170 rfl rfl ?_
        refine go_aload_n dX0_stepBehind_173 rfl ?_
        refine go_getf fX0_24 dX0_stepBehind_174 rfl rfl ?_
        refine go_iload_n dX0_stepBehind_177 rfl ?_
        refine go_iconst (1) dX0_stepBehind_178 (by decide) ?_
        refine go_iadd dX0_stepBehind_179 ?_
        rw [show nI j + 1 = nI (j + 1) from nI_1 j]
        refine go_lald dX0_stepBehind_180 rfl (vp_in_nI (n := j + 1) (by omega) (by decide)) ?_
        refine go_iconst (4) dX0_stepBehind_181 (by decide) ?_
        refine go_bipush (8) dX0_stepBehind_182 (by decide) ?_
        refine go_aload_n dX0_stepBehind_184 rfl ?_
        refine go_getf fX0_21 dX0_stepBehind_185 rfl rfl ?_
        refine go_iload_n dX0_stepBehind_188 rfl ?_
        refine go_iconst (1) dX0_stepBehind_189 (by decide) ?_
        refine go_iadd dX0_stepBehind_190 ?_
        rw [show nI j + 1 = nI (j + 1) from nI_1 j]
        refine go_iald dX0_stepBehind_191 rfl (vp_in_nI (n := j + 1) (by omega) (by decide)) ?_
        refine go_isub dX0_stepBehind_192 ?_
        refine go_imul dX0_stepBehind_193 ?_
        refine go_lshl dX0_stepBehind_194 ?_
        refine go_ladd dX0_stepBehind_195 ?_
        refine go_putf fX0_41 dX0_stepBehind_196 rfl (fun _ _ _ h => by cases h; rfl) (fun _ => rfl) (fun _ => rfl) (Nat.le_of_ble_eq_true rfl) ?_
        refine go_return dX0_stepBehind_199 rfl (Nat.le_of_ble_eq_true rfl) (Nat.le_of_ble_eq_true rfl) ?_
        refine ⟨rfl, ?_⟩
        simp only [nI_clamp (show j < 2 ^ 31 by omega), nI_clamp (show j + 1 < 2 ^ 31 by omega), pk_us, pk_uLs, upd_upd]
        first
          | (simp only [if_pos c_101, if_neg (show ¬ (cm j = 3 ∧ ¬ q = 0) from fun h => c_149 h.1)] <;> rfl)
          | (simp only [if_neg c_101, if_neg (show ¬ (cm j = 3 ∧ ¬ q = 0) from fun h => c_149 h.1)] <;> rfl)
          | (simp only [if_pos c_101, if_neg (show ¬ (cm j = 3 ∧ ¬ q = 0) from fun h => h.2 c_153)] <;> rfl)
          | (simp only [if_neg c_101, if_neg (show ¬ (cm j = 3 ∧ ¬ q = 0) from fun h => h.2 c_153)] <;> rfl)
          | (simp only [if_pos c_101, if_pos (show cm j = 3 ∧ ¬ q = 0 from ⟨c_149, c_153⟩)] <;> rfl)
          | (simp only [if_neg c_101, if_pos (show cm j = 3 ∧ ¬ q = 0 from ⟨c_149, c_153⟩)] <;> rfl)
  · refine go_aload_n dX0_stepBehind_104 rfl ?_
    refine go_getf fX0_24 dX0_stepBehind_105 rfl rfl ?_
    refine go_iload_n dX0_stepBehind_108 rfl ?_
    refine go_lald dX0_stepBehind_109 rfl (vp_in_nI (n := j) (by omega) (by decide)) ?_
    refine go_aload_n dX0_stepBehind_110 rfl ?_
    refine go_getf fX0_15 dX0_stepBehind_111 rfl rfl ?_
    refine go_iload_n dX0_stepBehind_114 rfl ?_
    refine go_iald dX0_stepBehind_115 rfl (vp_in_nI (n := j) (by omega) (by decide)) ?_
    refine go_i2l dX0_stepBehind_116 ?_
    refine go_lmul dX0_stepBehind_117 ?_
    refine go_goto 127 dX0_stepBehind_118 (by decide) ?_
    refine go_last dX0_stepBehind_127 rfl (vp_in_nI (n := j + 1) (by omega) (by decide)) ?_
    refine go_aload_n dX0_stepBehind_128 rfl ?_
    refine go_getf fX0_28 dX0_stepBehind_129 rfl rfl ?_
    refine go_iload_n dX0_stepBehind_132 rfl ?_
    refine go_iconst (1) dX0_stepBehind_133 (by decide) ?_
    refine go_iadd dX0_stepBehind_134 ?_
    rw [show nI j + 1 = nI (j + 1) from nI_1 j]
    refine go_aload_n dX0_stepBehind_135 rfl ?_
    refine go_getf fX0_28 dX0_stepBehind_136 rfl rfl ?_
    refine go_iload_n dX0_stepBehind_139 rfl ?_
    refine go_iald dX0_stepBehind_140 rfl (vp_in_nI (n := j) (by omega) (by decide)) ?_
    refine go_iast dX0_stepBehind_141 rfl (vp_in_nI (n := j + 1) (by omega) (by decide)) ?_
    refine go_aload_n dX0_stepBehind_142 rfl ?_
    refine go_getf fX0_9 dX0_stepBehind_143 rfl rfl ?_
    refine go_iload_n dX0_stepBehind_146 rfl ?_
    refine go_iald dX0_stepBehind_147 rfl (vp_in_nI (n := j) (by omega) (by decide)) ?_
    rw [nI_clamp (show j < 2 ^ 31 by omega)]
    refine go_iconst (3) dX0_stepBehind_148 (by decide) ?_
    refine go_icmp_ne 199 dX0_stepBehind_149 (by decide) (fun c_149 => ?_) (fun c_149 => ?_)
    · refine go_return dX0_stepBehind_199 rfl (Nat.le_of_ble_eq_true rfl) (Nat.le_of_ble_eq_true rfl) ?_
      refine ⟨rfl, ?_⟩
      simp only [nI_clamp (show j < 2 ^ 31 by omega), nI_clamp (show j + 1 < 2 ^ 31 by omega), pk_us, pk_uLs, upd_upd]
      first
        | (simp only [if_pos c_101, if_neg (show ¬ (cm j = 3 ∧ ¬ q = 0) from fun h => c_149 h.1)] <;> rfl)
        | (simp only [if_neg c_101, if_neg (show ¬ (cm j = 3 ∧ ¬ q = 0) from fun h => c_149 h.1)] <;> rfl)
        | (simp only [if_pos c_101, if_neg (show ¬ (cm j = 3 ∧ ¬ q = 0) from fun h => h.2 c_153)] <;> rfl)
        | (simp only [if_neg c_101, if_neg (show ¬ (cm j = 3 ∧ ¬ q = 0) from fun h => h.2 c_153)] <;> rfl)
        | (simp only [if_pos c_101, if_pos (show cm j = 3 ∧ ¬ q = 0 from ⟨c_149, c_153⟩)] <;> rfl)
        | (simp only [if_neg c_101, if_pos (show cm j = 3 ∧ ¬ q = 0 from ⟨c_149, c_153⟩)] <;> rfl)
    · refine go_iload_n dX0_stepBehind_152 rfl ?_
      refine go_if_eq 199 dX0_stepBehind_153 (by decide) (fun c_153 => ?_) (fun c_153 => ?_)
      · refine go_return dX0_stepBehind_199 rfl (Nat.le_of_ble_eq_true rfl) (Nat.le_of_ble_eq_true rfl) ?_
        refine ⟨rfl, ?_⟩
        simp only [nI_clamp (show j < 2 ^ 31 by omega), nI_clamp (show j + 1 < 2 ^ 31 by omega), pk_us, pk_uLs, upd_upd]
        first
          | (simp only [if_pos c_101, if_neg (show ¬ (cm j = 3 ∧ ¬ q = 0) from fun h => c_149 h.1)] <;> rfl)
          | (simp only [if_neg c_101, if_neg (show ¬ (cm j = 3 ∧ ¬ q = 0) from fun h => c_149 h.1)] <;> rfl)
          | (simp only [if_pos c_101, if_neg (show ¬ (cm j = 3 ∧ ¬ q = 0) from fun h => h.2 c_153)] <;> rfl)
          | (simp only [if_neg c_101, if_neg (show ¬ (cm j = 3 ∧ ¬ q = 0) from fun h => h.2 c_153)] <;> rfl)
          | (simp only [if_pos c_101, if_pos (show cm j = 3 ∧ ¬ q = 0 from ⟨c_149, c_153⟩)] <;> rfl)
          | (simp only [if_neg c_101, if_pos (show cm j = 3 ∧ ¬ q = 0 from ⟨c_149, c_153⟩)] <;> rfl)
      · refine go_aload_n dX0_stepBehind_156 rfl ?_
        refine go_getf fX0_28 dX0_stepBehind_157 rfl rfl ?_
        refine go_iload_n dX0_stepBehind_160 rfl ?_
        refine go_iconst (1) dX0_stepBehind_161 (by decide) ?_
        refine go_iadd dX0_stepBehind_162 ?_
        rw [show nI j + 1 = nI (j + 1) from nI_1 j]
        refine go_dup2 dX0_stepBehind_163 rfl rfl ?_
        refine go_iald dX0_stepBehind_164 rfl (vp_in_nI (n := j + 1) (by omega) (by decide)) ?_
        refine go_iconst (1) dX0_stepBehind_165 (by decide) ?_
        refine go_iadd dX0_stepBehind_166 ?_
        refine go_iast dX0_stepBehind_167 rfl (vp_in_nI (n := j + 1) (by omega) (by decide)) ?_
        refine go_aload_n dX0_stepBehind_168 rfl ?_
        refine go_dup dX0_stepBehind_169 rfl ?_
        refine go_getf fX0_41 dX0_stepBehind_170 rfl rfl ?_
        refine go_aload_n dX0_stepBehind_173 rfl ?_
        refine go_getf fX0_24 dX0_stepBehind_174 rfl rfl ?_
        refine go_iload_n dX0_stepBehind_177 rfl ?_
        refine go_iconst (1) dX0_stepBehind_178 (by decide) ?_
        refine go_iadd dX0_stepBehind_179 ?_
        rw [show nI j + 1 = nI (j + 1) from nI_1 j]
        refine go_lald dX0_stepBehind_180 rfl (vp_in_nI (n := j + 1) (by omega) (by decide)) ?_
        refine go_iconst (4) dX0_stepBehind_181 (by decide) ?_
        refine go_bipush (8) dX0_stepBehind_182 (by decide) ?_
        refine go_aload_n dX0_stepBehind_184 rfl ?_
        refine go_getf fX0_21 dX0_stepBehind_185 rfl rfl ?_
        refine go_iload_n dX0_stepBehind_188 rfl ?_
        refine go_iconst (1) dX0_stepBehind_189 (by decide) ?_
        refine go_iadd dX0_stepBehind_190 ?_
        rw [show nI j + 1 = nI (j + 1) from nI_1 j]
        refine go_iald dX0_stepBehind_191 rfl (vp_in_nI (n := j + 1) (by omega) (by decide)) ?_
        refine go_isub dX0_stepBehind_192 ?_
        refine go_imul dX0_stepBehind_193 ?_
        refine go_lshl dX0_stepBehind_194 ?_
        refine go_ladd dX0_stepBehind_195 ?_
        refine go_putf fX0_41 dX0_stepBehind_196 rfl (fun _ _ _ h => by cases h; rfl) (fun _ => rfl) (fun _ => rfl) (Nat.le_of_ble_eq_true rfl) ?_
        refine go_return dX0_stepBehind_199 rfl (Nat.le_of_ble_eq_true rfl) (Nat.le_of_ble_eq_true rfl) ?_
        refine ⟨rfl, ?_⟩
        simp only [nI_clamp (show j < 2 ^ 31 by omega), nI_clamp (show j + 1 < 2 ^ 31 by omega), pk_us, pk_uLs, upd_upd]
        first
          | (simp only [if_pos c_101, if_neg (show ¬ (cm j = 3 ∧ ¬ q = 0) from fun h => c_149 h.1)] <;> rfl)
          | (simp only [if_neg c_101, if_neg (show ¬ (cm j = 3 ∧ ¬ q = 0) from fun h => c_149 h.1)] <;> rfl)
          | (simp only [if_pos c_101, if_neg (show ¬ (cm j = 3 ∧ ¬ q = 0) from fun h => h.2 c_153)] <;> rfl)
          | (simp only [if_neg c_101, if_neg (show ¬ (cm j = 3 ∧ ¬ q = 0) from fun h => h.2 c_153)] <;> rfl)
          | (simp only [if_pos c_101, if_pos (show cm j = 3 ∧ ¬ q = 0 from ⟨c_149, c_153⟩)] <;> rfl)
          | (simp only [if_neg c_101, if_pos (show cm j = 3 ∧ ¬ q = 0 from ⟨c_149, c_153⟩)] <;> rfl)
