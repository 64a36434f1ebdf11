theorem li (n : Nat) : (OfNat.ofNat n : Int32) = nI n := rfl
theorem nI_e {a b : Nat} (h : a = b) : nI a = nI b := by rw [h]
theorem rem6 {i : Nat} (h : i < 2 ^ 31) : nI i - nI i / 6 * 6 = nI (i % 6) := pk_rem (d := 6) h (by decide) (by decide)
theorem nI_ne1 {i : Nat} (h : i < 2 ^ 31) : ¬ nI i = -1 := fun q => by
  have h1 := congrArg Int32.toInt q
  rw [nI_toInt h] at h1
  have h2 : (-1 : Int32).toInt = -1 := by decide
  omega
/-! the texts, as told: where a text of felons is at fault, how many felons, and what each part says -/
def bad (b : Nat → Int32) : Nat → Nat → Option Nat
  | 0, _ => none
  | d + 1, i => if fitN (i % 6) (b i) = true then bad b d (i + 1) else some i
def fltI (n : Nat) (b : Nat → Int32) : Int32 := match bad b n 0 with
  | some i => nI i
  | none => if n = 0 ∨ n % 6 = 5 then -1 else nI n
def gsz (n : Nat) (b : Nat → Int32) : Nat := if fltI n b = -1 then (n + 1) / 6 else 0
def prt (k : Nat) (b : Int32) : Int32 := match k with
  | 0 => kinI b
  | 1 => b - 48
  | 2 => b - 48
  | 3 => if b = 103 then 1 else 0
  | _ => if b = 46 then -1 else b - 48
def badN (b : Nat → Int32) : Nat → Nat → Option Nat
  | 0, _ => none
  | d + 1, i => if b i < 97 ∨ 104 < b i then some i else badN b d (i + 1)
def nfl (n : Nat) (b : Nat → Int32) : Int32 := match badN b n 0 with
  | some i => nI i
  | none => -1
def nsz (n : Nat) (b : Nat → Int32) : Nat := match badN b n 0 with
  | some _ => 0
  | none => n
def fateI (ft : Nat → Int32) (x : Int32) : Int32 := if x < 0 ∨ 8 ≤ x then -1 else ft x.toNatClampNeg
def okD (ft a b : Nat → Int32) : Nat → Nat → Bool
  | 0, _ => true
  | d + 1, i => if fateI ft (a i) = b i then okD ft a b d (i + 1) else false
/-- as many times as it can be halved -/
def tolN : Nat → Nat → Nat × Nat
  | a, 0 => (a, 0)
  | a, k + 1 => if a % 2 = 0 then tolN (a / 2) k else (a, k + 1)
theorem bad_lt {b : Nat → Int32} : ∀ {d i j : Nat}, bad b d i = some j → i ≤ j ∧ j < i + d
  | 0, i, j, h => by simp [bad] at h
  | d + 1, i, j, h => by
    rw [bad] at h
    split at h
    · have := bad_lt h; omega
    · simp at h; omega
theorem bad_ok {b : Nat → Int32} : ∀ {d i : Nat}, bad b d i = none → ∀ j, i ≤ j → j < i + d → fitN (j % 6) (b j) = true
  | 0, i, _, j, h1, h2 => by omega
  | d + 1, i, h, j, h1, h2 => by
    rw [bad] at h
    split at h
    · by_cases hj : j = i
      · subst hj; assumption
      · exact bad_ok h j (by omega) (by omega)
    · simp at h
theorem ev_byteE {n cap : Nat} {f : Nat → Int32} {x : Int32} {j : Nat} (hx : x = nI j) (hj : j < n) (hn : n ≤ cap) (hc : cap < 2 ^ 31) : Ev MX10_byteAt [.ref 0, .int x] [zO 8 [.ref 1, .int (nI n)], zI cap f] (Ri [zO 8 [.ref 1, .int (nI n)], zI cap f] (f j)) := by
  have h := ev_X10_byteAt cap (nI n) x f (by rw [nI_toInt (by omega)]; omega)
  subst hx
  have hv : (if nI j < 0 ∨ nI n ≤ nI j then (-1 : Int32) else f (nI j).toNatClampNeg) = f j := by
    rw [if_neg, nI_clamp (by omega)]
    rintro (q | q)
    · exact nI_pos (by omega) q
    · exact nI_ge hj (by omega) q
  rwa [hv] at h
theorem ev_partE {sz fp x y : Int32} {f : Nat → Int32} {j k : Nat} (hx : x = nI j) (hy : y = nI k) (hj : j < 8) (hk : k < 5) : Ev MX2_part [.ref 0, .int x, .int y] [zO 1 [.ref 1, .int sz, .int fp], zI 40 f] (Ri [zO 1 [.ref 1, .int sz, .int fp], zI 40 f] (f (5 * j + k))) := by
  have h := ev_X2_part sz fp x y f
  subst hx; subst hy
  have e : nI j * 5 + nI k = nI (5 * j + k) := by simp only [li, pk_mul, nI_add]; exact nI_e (by omega)
  rw [e] at h
  rw [if_neg, nI_clamp (by omega)] at h
  · exact h
  · rintro (q | q)
    · exact nI_pos (by omega) q
    · exact nI_ge (a := 5 * j + k) (b := 40) (by omega) (by decide) q
theorem min12 {n : Nat} (h : n ≤ 12) : (if nI n < (12 : Int32) then nI n else 12) = nI n := by
  by_cases h2 : n = 12
  · subst h2; rfl
  · exact if_pos (nI_lt (a := n) (b := 12) (by omega) (by decide))
theorem has_t {j g : Nat} (h : j < g) (hg : g < 2 ^ 31) : (if nI j < 0 ∨ nI g ≤ nI j then (0 : Int32) else 1) = 1 := by
  rw [if_neg]
  rintro (q | q)
  · exact nI_pos (by omega) q
  · exact nI_ge h hg q
theorem has_f {j g : Nat} (h : g ≤ j) (hj : j < 2 ^ 31) : (if nI j < 0 ∨ nI g ≤ nI j then (0 : Int32) else 1) = 0 := by
  rw [if_pos (Or.inr (nI_le h hj))]
set_option maxRecDepth 100000 in
theorem ev_X2_putKind (g j : Nat) (hj : j < g) (hg : g ≤ 8) (fp v : Int32) (f : Nat → Int32) : Ev MX2_putKind [.ref 0, .int (nI j), .int v] [zO 1 [.ref 1, .int (nI g), .int fp], zI 40 f] (Rw none [zO 1 [.ref 1, .int (nI g), .int fp], zI 40 (upd f (5 * j) v)]) := by
  refine ev_of bX2_putKind [some (.ref 0), some (.int (nI j)), some (.int v)] (Nat.le_of_ble_eq_true rfl) rfl ?_
  refine go_aload_n dX2_putKind_0 rfl ?_
  refine go_iload_n dX2_putKind_1 rfl ?_
  refine go_callVi (z := MX2_has) [0, 1] dX2_putKind_2 lX2_46 sX2_has (ev_X2_has _ _ _ _) rfl rfl rfl rfl rfl ⟨_, _, rfl⟩ rfl rfl ?_
  rw [has_t hj (by omega)]
  refine go_if_eq 19 dX2_putKind_5 (by decide) (fun c_5 => absurd c_5 (by decide)) (fun _ => ?_)
  refine go_aload_n dX2_putKind_8 rfl ?_
  refine go_getf fX2_9 dX2_putKind_9 rfl rfl ?_
  refine go_iload_n dX2_putKind_12 rfl ?_
  refine go_iconst (5) dX2_putKind_13 (by decide) ?_
  refine go_imul dX2_putKind_14 ?_
  refine go_iconst (0) dX2_putKind_15 (by decide) ?_
  refine go_iadd dX2_putKind_16 ?_
  rw [show nI j * 5 + 0 = nI (5 * j) by simp only [li, pk_mul, nI_add]; exact nI_e (by omega)]
  refine go_iload_n dX2_putKind_17 rfl ?_
  refine go_iast dX2_putKind_18 rfl (vp_in_nI (by omega) (by decide)) ?_
  refine go_return dX2_putKind_19 rfl (Nat.le_of_ble_eq_true rfl) (Nat.le_of_ble_eq_true rfl) ?_
  refine ⟨rfl, ?_⟩
  simp only [nI_clamp (show 5 * j < 2 ^ 31 by omega)]
  rfl
set_option maxRecDepth 100000 in
theorem ev_X2_answerOf (sz fp b : Int32) (j : Nat) (hj : j < 8) (f : Nat → Int32) : Ev MX2_answerOf [.ref 0, .int (nI j), .int b] [zO 1 [.ref 1, .int sz, .int fp], zI 40 f] (Ri [zO 1 [.ref 1, .int sz, .int fp], zI 40 f] (ansI (f (5 * j)) (f (5 * j + 3)) (f (5 * j + 2)) b)) := by
  refine ev_of bX2_answerOf [some (.ref 0), some (.int (nI j)), some (.int b), none] (Nat.le_of_ble_eq_true rfl) rfl ?_
  refine go_aload_n dX2_answerOf_0 rfl ?_
  refine go_iload_n dX2_answerOf_1 rfl ?_
  refine go_iconst (0) dX2_answerOf_2 (by decide) ?_
  refine go_callVi (z := MX2_part) [0, 1] dX2_answerOf_3 lX2_50 sX2_part (ev_partE (j := j) (k := 0) rfl rfl hj (by decide)) rfl rfl rfl rfl rfl ⟨_, _, rfl⟩ rfl rfl ?_
  refine go_istore_n dX2_answerOf_6 (by decide) ?_
  refine go_iload_n dX2_answerOf_7 rfl ?_
  refine go_iconst (3) dX2_answerOf_8 (by decide) ?_
  refine go_icmp_ne 14 dX2_answerOf_9 (by decide) (fun c_9 => ?_) (fun c_9 => ?_)
  · refine go_iload_n dX2_answerOf_14 rfl ?_
    refine go_iconst (1) dX2_answerOf_15 (by decide) ?_
    refine go_icmp_ne 31 dX2_answerOf_16 (by decide) (fun c_16 => ?_) (fun c_16 => ?_)
    · refine go_iload_n dX2_answerOf_31 rfl ?_
      refine go_iconst (2) dX2_answerOf_32 (by decide) ?_
      refine go_icmp_ne 50 dX2_answerOf_33 (by decide) (fun c_33 => ?_) (fun c_33 => ?_)
      · refine go_iconst (3) dX2_answerOf_50 (by decide) ?_
        refine go_ireturn dX2_answerOf_51 rfl rfl (Nat.le_of_ble_eq_true rfl) (Nat.le_of_ble_eq_true rfl) ?_
        exact ⟨by simp_all [ansI], rfl⟩
      · refine go_aload_n dX2_answerOf_36 rfl ?_
        refine go_iload_n dX2_answerOf_37 rfl ?_
        refine go_iconst (2) dX2_answerOf_38 (by decide) ?_
        refine go_callVi (z := MX2_part) [0, 1] dX2_answerOf_39 lX2_50 sX2_part (ev_partE (j := j) (k := 2) rfl rfl hj (by decide)) rfl rfl rfl rfl rfl ⟨_, _, rfl⟩ rfl rfl ?_
        refine go_iload_n dX2_answerOf_42 rfl ?_
        refine go_icmp_lt 50 dX2_answerOf_43 (by decide) (fun c_43 => ?_) (fun c_43 => ?_)
        · refine go_iconst (3) dX2_answerOf_50 (by decide) ?_
          refine go_ireturn dX2_answerOf_51 rfl rfl (Nat.le_of_ble_eq_true rfl) (Nat.le_of_ble_eq_true rfl) ?_
          exact ⟨by simp_all [ansI], rfl⟩
        · refine go_iconst (2) dX2_answerOf_46 (by decide) ?_
          refine go_goto 51 dX2_answerOf_47 (by decide) ?_
          refine go_ireturn dX2_answerOf_51 rfl rfl (Nat.le_of_ble_eq_true rfl) (Nat.le_of_ble_eq_true rfl) ?_
          exact ⟨by simp_all [ansI], rfl⟩
    · refine go_aload_n dX2_answerOf_19 rfl ?_
      refine go_iload_n dX2_answerOf_20 rfl ?_
      refine go_iconst (3) dX2_answerOf_21 (by decide) ?_
      refine go_callVi (z := MX2_part) [0, 1] dX2_answerOf_22 lX2_50 sX2_part (ev_partE (j := j) (k := 3) rfl rfl hj (by decide)) rfl rfl rfl rfl rfl ⟨_, _, rfl⟩ rfl rfl ?_
      refine go_iconst (1) dX2_answerOf_25 (by decide) ?_
      refine go_icmp_ne 31 dX2_answerOf_26 (by decide) (fun c_26 => ?_) (fun c_26 => ?_)
      · refine go_iload_n dX2_answerOf_31 rfl ?_
        refine go_iconst (2) dX2_answerOf_32 (by decide) ?_
        refine go_icmp_ne 50 dX2_answerOf_33 (by decide) (fun c_33 => ?_) (fun c_33 => ?_)
        · refine go_iconst (3) dX2_answerOf_50 (by decide) ?_
          refine go_ireturn dX2_answerOf_51 rfl rfl (Nat.le_of_ble_eq_true rfl) (Nat.le_of_ble_eq_true rfl) ?_
          exact ⟨by simp_all [ansI], rfl⟩
        · refine go_aload_n dX2_answerOf_36 rfl ?_
          refine go_iload_n dX2_answerOf_37 rfl ?_
          refine go_iconst (2) dX2_answerOf_38 (by decide) ?_
          refine go_callVi (z := MX2_part) [0, 1] dX2_answerOf_39 lX2_50 sX2_part (ev_partE (j := j) (k := 2) rfl rfl hj (by decide)) rfl rfl rfl rfl rfl ⟨_, _, rfl⟩ rfl rfl ?_
          refine go_iload_n dX2_answerOf_42 rfl ?_
          refine go_icmp_lt 50 dX2_answerOf_43 (by decide) (fun c_43 => ?_) (fun c_43 => ?_)
          · refine go_iconst (3) dX2_answerOf_50 (by decide) ?_
            refine go_ireturn dX2_answerOf_51 rfl rfl (Nat.le_of_ble_eq_true rfl) (Nat.le_of_ble_eq_true rfl) ?_
            exact ⟨by simp_all [ansI], rfl⟩
          · refine go_iconst (2) dX2_answerOf_46 (by decide) ?_
            refine go_goto 51 dX2_answerOf_47 (by decide) ?_
            refine go_ireturn dX2_answerOf_51 rfl rfl (Nat.le_of_ble_eq_true rfl) (Nat.le_of_ble_eq_true rfl) ?_
            exact ⟨by simp_all [ansI], rfl⟩
      · refine go_iconst (1) dX2_answerOf_29 (by decide) ?_
        refine go_ireturn dX2_answerOf_30 rfl rfl (Nat.le_of_ble_eq_true rfl) (Nat.le_of_ble_eq_true rfl) ?_
        exact ⟨by simp_all [ansI], rfl⟩
  · refine go_iconst (4) dX2_answerOf_12 (by decide) ?_
    refine go_ireturn dX2_answerOf_13 rfl rfl (Nat.le_of_ble_eq_true rfl) (Nat.le_of_ble_eq_true rfl) ?_
    exact ⟨by simp_all [ansI], rfl⟩
set_option maxRecDepth 100000 in
theorem ev_X1_told (a kk : Nat) (ha : a < 2 ^ 62) (hk : kk ≤ 62) (y : Int32) : Ev MX1_told [.long (lN a), .int (nI kk), .int y] [] (Rj [] (if y = 0 then lN (tolN a kk).1 else lN (2 ^ (tolN a kk).2))) := by
  refine ev_of bX1_told [some (.long (lN a)), none, some (.int (nI kk)), some (.int y), none, none, none] (Nat.le_of_ble_eq_true rfl) rfl ?_
  refine go_lload_n dX1_told_0 rfl ?_
  refine go_lstore dX1_told_1 (by decide) ?_
  refine go_iload_n dX1_told_3 rfl ?_
  refine go_istore dX1_told_4 (by decide) ?_
  suffices loop : ∀ (k a' : Nat), a' < 2 ^ 62 → k ≤ 62 → tolN a' k = tolN a kk → Go X0 MX1_told (Rj [] (if y = 0 then lN (tolN a kk).1 else lN (2 ^ (tolN a kk).2))) 0 0 0 6 [some (.long (lN a)), none, some (.int (nI kk)), some (.int y), some (.long (lN a')), none, some (.int (nI k))] [] [] from loop kk a ha hk rfl
  clear hk
  intro k
  induction k with
  | zero =>
    intro a' ha' _ ht
    rw [← ht]
    refine go_iload dX1_told_6 rfl ?_
    refine go_if_le 32 dX1_told_8 (by decide) (fun _ => ?_) (fun c_8 => absurd (by decide) c_8)
    refine go_iload_n dX1_told_32 rfl ?_
    refine go_if_ne 41 dX1_told_33 (by decide) (fun c_33 => ?_) (fun c_33 => ?_)
    · refine go_lconst 1 dX1_told_41 (by decide) ?_
      refine go_iload dX1_told_42 rfl ?_
      refine go_lshl dX1_told_44 ?_
      rw [show (1 : Int64) <<< ((nI 0).toInt64 &&& 63) = lN 1 by decide]
      refine go_lreturn dX1_told_45 rfl (Nat.le_of_ble_eq_true rfl) (Nat.le_of_ble_eq_true rfl) ?_
      exact ⟨by simp [tolN, *], rfl⟩
    · refine go_lload dX1_told_36 rfl ?_
      refine go_goto 45 dX1_told_38 (by decide) ?_
      refine go_lreturn dX1_told_45 rfl (Nat.le_of_ble_eq_true rfl) (Nat.le_of_ble_eq_true rfl) ?_
      exact ⟨by simp [tolN, *], rfl⟩
  | succ k ih =>
    intro a' ha' hk ht
    refine go_iload dX1_told_6 rfl ?_
    refine go_if_le 32 dX1_told_8 (by decide) (fun c_8 => absurd c_8 (nI_nle (by omega) (by omega))) (fun _ => ?_)
    refine go_lload dX1_told_11 rfl ?_
    refine go_lconst 1 dX1_told_13 (by decide) ?_
    skip
    refine go_land dX1_told_14 ?_
    rw [show lN a' &&& 1 = lN (a' % 2) from g_and1 (by omega)]
    refine go_lconst 0 dX1_told_15 (by decide) ?_
    refine go_lcmp dX1_told_16 ?_
    skip
    by_cases he : a' % 2 = 0
    · rw [he]
      refine go_if_ne 32 dX1_told_17 (by decide) (fun c_17 => absurd (by decide) c_17) (fun _ => ?_)
      refine go_lload dX1_told_20 rfl ?_
      refine go_iconst (1) dX1_told_22 (by decide) ?_
      refine go_lshr dX1_told_23 ?_
      refine go_lstore dX1_told_24 (by decide) ?_
      refine go_iincN (-1) dX1_told_26 rfl (by decide) (by decide) ?_
      refine go_goto 6 dX1_told_29 (by decide) ?_
      rw [show nI (k + 1) + -1 = nI k from pk_m1 k, show lN a' >>> ((1 : Int32).toInt64 &&& 63) = lN (a' / 2) from pf_shr (d := 1) (by decide) ha']
      exact ih (a' / 2) (by omega) (by omega) (by rw [← ht, tolN, if_pos he])
    · rw [show a' % 2 = 1 by omega]
      rw [← ht]
      refine go_if_ne 32 dX1_told_17 (by decide) (fun _ => ?_) (fun c_17 => absurd c_17 (by decide))
      refine go_iload_n dX1_told_32 rfl ?_
      refine go_if_ne 41 dX1_told_33 (by decide) (fun c_33 => ?_) (fun c_33 => ?_)
      · refine go_lconst 1 dX1_told_41 (by decide) ?_
        refine go_iload dX1_told_42 rfl ?_
        refine go_lshl dX1_told_44 ?_
        rw [show (1 : Int64) <<< ((nI (k + 1)).toInt64 &&& 63) = lN (2 ^ (k + 1)) by rw [show (1 : Int64) = lN 1 from rfl, wb_shl 1 (by omega), Nat.one_mul]]
        refine go_lreturn dX1_told_45 rfl (Nat.le_of_ble_eq_true rfl) (Nat.le_of_ble_eq_true rfl) ?_
        exact ⟨by simp [tolN, *], rfl⟩
      · refine go_lload dX1_told_36 rfl ?_
        refine go_goto 45 dX1_told_38 (by decide) ?_
        refine go_lreturn dX1_told_45 rfl (Nat.le_of_ble_eq_true rfl) (Nat.le_of_ble_eq_true rfl) ?_
        exact ⟨by simp [tolN, *], rfl⟩
set_option maxRecDepth 100000 in
theorem ev_X2_placeOfFault (n cap : Nat) (hn : n ≤ cap) (hc : cap < 2 ^ 31) (b : Nat → Int32) : Ev MX2_placeOfFault [.ref 0] [zO 8 [.ref 1, .int (nI n)], zI cap b] (Ri [zO 8 [.ref 1, .int (nI n)], zI cap b] (fltI n b)) := by
  refine ev_of bX2_placeOfFault [some (.ref 0), none] (Nat.le_of_ble_eq_true rfl) rfl ?_
  refine go_iconst (0) dX2_placeOfFault_0 (by decide) ?_
  refine go_istore_n dX2_placeOfFault_1 (by decide) ?_
  suffices loop : ∀ (d i : Nat), i + d = n → bad b n 0 = bad b d i → Go X0 MX2_placeOfFault (Ri [zO 8 [.ref 1, .int (nI n)], zI cap b] (fltI n b)) 2 0 0 2 [some (.ref 0), some (.int (nI i))] [] [zO 8 [.ref 1, .int (nI n)], zI cap b] from loop n 0 (by omega) rfl
  intro d
  induction d with
  | zero =>
    intro i hi hb
    have hb : bad b n 0 = none := hb
    refine go_iload_n dX2_placeOfFault_2 rfl ?_
    refine go_aload_n dX2_placeOfFault_3 rfl ?_
    refine go_getf fX2_23 dX2_placeOfFault_4 rfl rfl ?_
    refine go_icmp_ge 33 dX2_placeOfFault_7 (by decide) (fun _ => ?_) (fun c_7 => absurd (nI_le (by omega) (by omega)) c_7)
    refine go_aload_n dX2_placeOfFault_33 rfl ?_
    refine go_getf fX2_23 dX2_placeOfFault_34 rfl rfl ?_
    by_cases h0 : n = 0
    · have hv : fltI n b = -1 := by simp only [fltI, hb]; exact if_pos (Or.inl h0)
      refine go_if_eq 51 dX2_placeOfFault_37 (by decide) (fun _ => ?_) (fun c_37 => absurd (by rw [h0]; rfl) c_37)
      refine go_iconst (1) dX2_placeOfFault_51 (by decide) ?_
      refine go_goto 56 dX2_placeOfFault_52 (by decide) ?_
      refine go_istore_n dX2_placeOfFault_56 (by decide) ?_
      refine go_iload_n dX2_placeOfFault_57 rfl ?_
      refine go_if_eq 65 dX2_placeOfFault_58 (by decide) (fun c_58 => absurd c_58 (by decide)) (fun _ => ?_)
      refine go_iconst (-1) dX2_placeOfFault_61 (by decide) ?_
      refine go_goto 69 dX2_placeOfFault_62 (by decide) ?_
      refine go_ireturn dX2_placeOfFault_69 rfl rfl (Nat.le_of_ble_eq_true rfl) (Nat.le_of_ble_eq_true rfl) ?_
      exact ⟨by rw [hv], rfl⟩
    · by_cases h5 : n % 6 = 5
      · have hv : fltI n b = -1 := by simp [fltI, hb, h5]
        refine go_if_eq 51 dX2_placeOfFault_37 (by decide) (fun c_37 => absurd c_37 (nI_ne0 (by omega) (by omega))) (fun _ => ?_)
        refine go_aload_n dX2_placeOfFault_40 rfl ?_
        refine go_getf fX2_23 dX2_placeOfFault_41 rfl rfl ?_
        refine go_bipush (6) dX2_placeOfFault_44 (by decide) ?_
        refine go_irem dX2_placeOfFault_46 (by decide) ?_
        rw [rem6 (show n < 2 ^ 31 by omega)]
        refine go_iconst (5) dX2_placeOfFault_47 (by decide) ?_
        refine go_icmp_ne 55 dX2_placeOfFault_48 (by decide) (fun c_48 => absurd (by rw [h5]; rfl) c_48) (fun _ => ?_)
        refine go_iconst (1) dX2_placeOfFault_51 (by decide) ?_
        refine go_goto 56 dX2_placeOfFault_52 (by decide) ?_
        refine go_istore_n dX2_placeOfFault_56 (by decide) ?_
        refine go_iload_n dX2_placeOfFault_57 rfl ?_
        refine go_if_eq 65 dX2_placeOfFault_58 (by decide) (fun c_58 => absurd c_58 (by decide)) (fun _ => ?_)
        refine go_iconst (-1) dX2_placeOfFault_61 (by decide) ?_
        refine go_goto 69 dX2_placeOfFault_62 (by decide) ?_
        refine go_ireturn dX2_placeOfFault_69 rfl rfl (Nat.le_of_ble_eq_true rfl) (Nat.le_of_ble_eq_true rfl) ?_
        exact ⟨by rw [hv], rfl⟩
      · have hv : fltI n b = nI n := by simp [fltI, hb, h0, h5]
        refine go_if_eq 51 dX2_placeOfFault_37 (by decide) (fun c_37 => absurd c_37 (nI_ne0 (by omega) (by omega))) (fun _ => ?_)
        refine go_aload_n dX2_placeOfFault_40 rfl ?_
        refine go_getf fX2_23 dX2_placeOfFault_41 rfl rfl ?_
        refine go_bipush (6) dX2_placeOfFault_44 (by decide) ?_
        refine go_irem dX2_placeOfFault_46 (by decide) ?_
        rw [rem6 (show n < 2 ^ 31 by omega)]
        refine go_iconst (5) dX2_placeOfFault_47 (by decide) ?_
        refine go_icmp_ne 55 dX2_placeOfFault_48 (by decide) (fun _ => ?_) (fun c_48 => absurd c_48 (fun q => h5 ((nI_eq (by omega) (by decide)).mp q)))
        refine go_iconst (0) dX2_placeOfFault_55 (by decide) ?_
        refine go_istore_n dX2_placeOfFault_56 (by decide) ?_
        refine go_iload_n dX2_placeOfFault_57 rfl ?_
        refine go_if_eq 65 dX2_placeOfFault_58 (by decide) (fun _ => ?_) (fun c_58 => absurd (by decide) c_58)
        refine go_aload_n dX2_placeOfFault_65 rfl ?_
        refine go_getf fX2_23 dX2_placeOfFault_66 rfl rfl ?_
        refine go_ireturn dX2_placeOfFault_69 rfl rfl (Nat.le_of_ble_eq_true rfl) (Nat.le_of_ble_eq_true rfl) ?_
        exact ⟨by rw [hv], rfl⟩
  | succ d ih =>
    intro i hi hb
    refine go_iload_n dX2_placeOfFault_2 rfl ?_
    refine go_aload_n dX2_placeOfFault_3 rfl ?_
    refine go_getf fX2_23 dX2_placeOfFault_4 rfl rfl ?_
    refine go_icmp_ge 33 dX2_placeOfFault_7 (by decide) (fun c_7 => absurd c_7 (nI_ge (by omega) (by omega))) (fun _ => ?_)
    refine go_aload_n dX2_placeOfFault_10 rfl ?_
    refine go_iload_n dX2_placeOfFault_11 rfl ?_
    refine go_callVi (z := MX10_byteAt) [0, 1] dX2_placeOfFault_12 lX2_35 sX10_byteAt (ev_byteE (j := i) rfl (by omega) hn hc) rfl rfl rfl rfl rfl ⟨_, _, rfl⟩ rfl rfl ?_
    refine go_iload_n dX2_placeOfFault_15 rfl ?_
    refine go_bipush (6) dX2_placeOfFault_16 (by decide) ?_
    refine go_irem dX2_placeOfFault_18 (by decide) ?_
    rw [rem6 (show i < 2 ^ 31 by omega)]
    refine go_callSi (z := MX2_fits) [] dX2_placeOfFault_19 lX2_42 sX2_fits (ev_X2_fits (b i) (i % 6) (by omega)) rfl rfl rfl rfl rfl rfl ?_
    skip
    by_cases hf : fitN (i % 6) (b i) = true
    · rw [if_pos hf]
      refine go_if_ne 27 dX2_placeOfFault_22 (by decide) (fun _ => ?_) (fun c_22 => absurd c_22 (by decide))
      refine go_iincN (1) dX2_placeOfFault_27 rfl (by decide) (by decide) ?_
      refine go_goto 2 dX2_placeOfFault_30 (by decide) ?_
      rw [nI_1]
      exact ih (i + 1) (by omega) (by rw [hb, bad, if_pos hf])
    · rw [if_neg hf]
      refine go_if_ne 27 dX2_placeOfFault_22 (by decide) (fun c_22 => absurd (by decide) c_22) (fun _ => ?_)
      refine go_iload_n dX2_placeOfFault_25 rfl ?_
      refine go_ireturn dX2_placeOfFault_26 rfl rfl (Nat.le_of_ble_eq_true rfl) (Nat.le_of_ble_eq_true rfl) ?_
      exact ⟨by simp [fltI, hb, bad, hf], rfl⟩
set_option maxRecDepth 100000 in
theorem ev_X4_parse (n cap : Nat) (hn : n ≤ cap) (h12 : n ≤ 12) (hc : cap < 2 ^ 31) (sz fp : Int32) (r b : Nat → Int32) : Ev MX4_parse [.ref 0, .ref 2] [zO 3 [.ref 1, .int sz, .int fp], zI 12 r, zO 8 [.ref 3, .int (nI n)], zI cap b] (fun v w => v = none ∧ ∃ r2 : Nat → Int32, w = [zO 3 [.ref 1, .int (nI (nsz n b)), .int (nfl n b)], zI 12 r2, zO 8 [.ref 3, .int (nI n)], zI cap b] ∧ ∀ i, i < nsz n b → r2 i = b i - 97) := by
  refine ev_of bX4_parse [some (.ref 0), some (.ref 2), none, none] (Nat.le_of_ble_eq_true rfl) rfl ?_
  refine go_aload_n dX4_parse_0 rfl ?_
  refine go_iconst (-1) dX4_parse_1 (by decide) ?_
  refine go_putf fX4_15 dX4_parse_2 rfl (fun _ _ _ h => by cases h; rfl) (fun _ => rfl) (fun _ => rfl) (Nat.le_of_ble_eq_true rfl) ?_
  refine go_aload_n dX4_parse_5 rfl ?_
  refine go_bipush (12) dX4_parse_6 (by decide) ?_
  refine go_aload_n dX4_parse_8 rfl ?_
  refine go_getf fX4_19 dX4_parse_9 rfl rfl ?_
  refine go_min dX4_parse_12 lX4_24 (Nat.le_of_ble_eq_true rfl) (Nat.le_of_ble_eq_true rfl) (Nat.le_of_ble_eq_true rfl) (Nat.le_of_ble_eq_true rfl) ?_
  rw [show (if nI n < (12 : Int32) then nI n else 12) = nI n from min12 h12]
  refine go_putf fX4_30 dX4_parse_15 rfl (fun _ _ _ h => by cases h; rfl) (fun _ => rfl) (fun _ => rfl) (Nat.le_of_ble_eq_true rfl) ?_
  refine go_iconst (0) dX4_parse_18 (by decide) ?_
  refine go_istore_n dX4_parse_19 (by decide) ?_
  suffices loop : ∀ (d i : Nat) (r : Nat → Int32) (x3 : Option Value), i + d = n → badN b n 0 = badN b d i → (∀ j, j < i → r j = b j - 97) → Go X0 MX4_parse (fun v w => v = none ∧ ∃ r2 : Nat → Int32, w = [zO 3 [.ref 1, .int (nI (nsz n b)), .int (nfl n b)], zI 12 r2, zO 8 [.ref 3, .int (nI n)], zI cap b] ∧ ∀ i, i < nsz n b → r2 i = b i - 97) 4 0 0 20 [some (.ref 0), some (.ref 2), some (.int (nI i)), x3] [] [zO 3 [.ref 1, .int (nI n), .int (-1)], zI 12 r, zO 8 [.ref 3, .int (nI n)], zI cap b] from loop n 0 r _ (by omega) rfl (fun j h => absurd h (by omega))
  intro d
  induction d with
  | zero =>
    intro i r x3 hi hb hr
    have hb : badN b n 0 = none := hb
    refine go_iload_n dX4_parse_20 rfl ?_
    refine go_aload_n dX4_parse_21 rfl ?_
    refine go_getf fX4_30 dX4_parse_22 rfl rfl ?_
    refine go_icmp_ge 73 dX4_parse_25 (by decide) (fun _ => ?_) (fun c_25 => absurd (nI_le (by omega) (by omega)) c_25)
    refine go_return dX4_parse_73 rfl (Nat.le_of_ble_eq_true rfl) (Nat.le_of_ble_eq_true rfl) ?_
    refine ⟨rfl, r, ?_, fun j h => hr j ?_⟩
    · first | (simp only [nsz, nfl, hb]; done) | (simp only [nsz, nfl, hb]; rfl)
    · simp only [nsz, hb] at h
      omega
  | succ d ih =>
    intro i r x3 hi hb hr
    refine go_iload_n dX4_parse_20 rfl ?_
    refine go_aload_n dX4_parse_21 rfl ?_
    refine go_getf fX4_30 dX4_parse_22 rfl rfl ?_
    refine go_icmp_ge 73 dX4_parse_25 (by decide) (fun c_25 => absurd c_25 (nI_ge (by omega) (by omega))) (fun _ => ?_)
    refine go_aload_n dX4_parse_28 rfl ?_
    refine go_iload_n dX4_parse_29 rfl ?_
    refine go_callVi (z := MX10_byteAt) [2, 3] dX4_parse_30 lX4_31 sX10_byteAt (ev_byteE (j := i) rfl (by omega) hn hc) rfl rfl rfl rfl rfl ⟨_, _, rfl⟩ rfl rfl ?_
    refine go_istore_n dX4_parse_33 (by decide) ?_
    skip
    by_cases h1 : b i < 97
    · have hb : badN b n 0 = some i := by rw [hb, badN, if_pos (Or.inl h1)]
      refine go_iload_n dX4_parse_34 rfl ?_
      refine go_bipush (97) dX4_parse_35 (by decide) ?_
      refine go_icmp_lt 46 dX4_parse_37 (by decide) (fun _ => ?_) (fun c_37 => absurd  h1 c_37)
      refine go_aload_n dX4_parse_46 rfl ?_
      refine go_iload_n dX4_parse_47 rfl ?_
      refine go_putf fX4_15 dX4_parse_48 rfl (fun _ _ _ h => by cases h; rfl) (fun _ => rfl) (fun _ => rfl) (Nat.le_of_ble_eq_true rfl) ?_
      refine go_aload_n dX4_parse_51 rfl ?_
      refine go_iconst (0) dX4_parse_52 (by decide) ?_
      refine go_putf fX4_30 dX4_parse_53 rfl (fun _ _ _ h => by cases h; rfl) (fun _ => rfl) (fun _ => rfl) (Nat.le_of_ble_eq_true rfl) ?_
      refine go_return dX4_parse_56 rfl (Nat.le_of_ble_eq_true rfl) (Nat.le_of_ble_eq_true rfl) ?_
      refine ⟨rfl, r, ?_, fun j h => ?_⟩
      · first | (simp only [nsz, nfl, hb]; done) | (simp only [nsz, nfl, hb]; rfl)
      · simp only [nsz, hb] at h
        omega
    · by_cases h2 : b i ≤ 104
      · have hb : badN b n 0 = badN b d (i + 1) := by
          rw [hb, badN, if_neg]
          rintro (q | q)
          · exact h1 q
          · exact absurd h2 (by simpa using q)
        refine go_iload_n dX4_parse_34 rfl ?_
        refine go_bipush (97) dX4_parse_35 (by decide) ?_
        refine go_icmp_lt 46 dX4_parse_37 (by decide) (fun c_37 => absurd c_37  h1) (fun _ => ?_)
        refine go_iload_n dX4_parse_40 rfl ?_
        refine go_bipush (104) dX4_parse_41 (by decide) ?_
        refine go_icmp_le 57 dX4_parse_43 (by decide) (fun _ => ?_) (fun c_43 => absurd  h2 c_43)
        refine go_aload_n dX4_parse_57 rfl ?_
        refine go_getf fX4_9 dX4_parse_58 rfl rfl ?_
        refine go_iload_n dX4_parse_61 rfl ?_
        refine go_iload_n dX4_parse_62 rfl ?_
        refine go_bipush (97) dX4_parse_63 (by decide) ?_
        refine go_isub dX4_parse_65 ?_
        refine go_iast dX4_parse_66 rfl (vp_in_nI (by omega) (by decide)) ?_
        refine go_iincN (1) dX4_parse_67 rfl (by decide) (by decide) ?_
        refine go_goto 20 dX4_parse_70 (by decide) ?_
        rw [nI_1]
        simp only [nI_clamp (show i < 2 ^ 31 by omega)]
        exact ih (i + 1) (upd r i (b i - 97)) _ (by omega) hb (fun j h => by
          by_cases hj : j = i
          · subst hj; exact pk_us
          · rw [pk_un hj]; exact hr j (by omega))
      · have hb : badN b n 0 = some i := by rw [hb, badN, if_pos (Or.inr (by simpa using h2))]
        refine go_iload_n dX4_parse_34 rfl ?_
        refine go_bipush (97) dX4_parse_35 (by decide) ?_
        refine go_icmp_lt 46 dX4_parse_37 (by decide) (fun c_37 => absurd c_37  h1) (fun _ => ?_)
        refine go_iload_n dX4_parse_40 rfl ?_
        refine go_bipush (104) dX4_parse_41 (by decide) ?_
        refine go_icmp_le 57 dX4_parse_43 (by decide) (fun c_43 => absurd c_43  h2) (fun _ => ?_)
        refine go_aload_n dX4_parse_46 rfl ?_
        refine go_iload_n dX4_parse_47 rfl ?_
        refine go_putf fX4_15 dX4_parse_48 rfl (fun _ _ _ h => by cases h; rfl) (fun _ => rfl) (fun _ => rfl) (Nat.le_of_ble_eq_true rfl) ?_
        refine go_aload_n dX4_parse_51 rfl ?_
        refine go_iconst (0) dX4_parse_52 (by decide) ?_
        refine go_putf fX4_30 dX4_parse_53 rfl (fun _ _ _ h => by cases h; rfl) (fun _ => rfl) (fun _ => rfl) (Nat.le_of_ble_eq_true rfl) ?_
        refine go_return dX4_parse_56 rfl (Nat.le_of_ble_eq_true rfl) (Nat.le_of_ble_eq_true rfl) ?_
        refine ⟨rfl, r, ?_, fun j h => ?_⟩
        · first | (simp only [nsz, nfl, hb]; done) | (simp only [nsz, nfl, hb]; rfl)
        · simp only [nsz, hb] at h
          omega
