def tolL (a k : Nat) (y : Int32) : Int64 := if y = 0 then lN (tolN a k).1 else lN (2 ^ (tolN a k).2)
def badL : Int64 := -9223372036854775808 - (-2 : Int32).toInt64
def pmk (P : TP) (m : Int32) : TP := (P.1, P.2.1, P.2.2.1, P.2.2.2.1, P.2.2.2.2.1, P.2.2.2.2.2.1, m, P.2.2.2.2.2.2.2)
def GInv (t : TX) (G : TG) : Prop := G.1 = gsz t.1 t.2 ∧ G.2.1 = fltI t.1 t.2 ∧ ∀ f k, f < G.1 → k < 5 → G.2.2 (5 * f + k) = prt k (t.2 (6 * f + k))
def NInv (t : TX) (N : TG) : Prop := N.1 = nsz t.1 t.2 ∧ N.2.1 = nfl t.1 t.2 ∧ ∀ i, i < N.1 → N.2.2 i = t.2 i - 97
theorem mul4 {k : Nat} : (4 : Int32) * nI k = nI (4 * k) := pk_mul 4 k
theorem badN_ok {b : Nat → Int32} : ∀ {d i : Nat}, badN b d i = none → ∀ j, i ≤ j → j < i + d → ¬ (b j < 97 ∨ 104 < b j)
  | 0, i, _, j, h1, h2 => by omega
  | d + 1, i, h, j, h1, h2 => by
    rw [badN] at h
    split at h
    · simp at h
    · by_cases hj : j = i
      · subst hj; assumption
      · exact badN_ok h j (by omega) (by omega)
theorem nsz_le (n : Nat) (b : Nat → Int32) : nsz n b ≤ n := by
  unfold nsz
  split <;> omega
theorem nsz_ok {n i : Nat} {b : Nat → Int32} (h : i < nsz n b) : ¬ (b i < 97 ∨ 104 < b i) := by
  unfold nsz at h
  split at h
  · omega
  · rename_i q
    exact badN_ok q i (Nat.zero_le _) (by omega)
theorem let_in {b : Int32} (h : ¬ (b < 97 ∨ 104 < b)) : b - 97 = nI (b - 97).toNatClampNeg ∧ (b - 97).toNatClampNeg < 8 := by
  have h1 : ¬ b < 97 := fun q => h (Or.inl q)
  have h2 : ¬ 104 < b := fun q => h (Or.inr q)
  have h3 : ∀ j, j < 8 → nI (97 + j) - 97 = nI (nI (97 + j) - 97).toNatClampNeg ∧ (nI (97 + j) - 97).toNatClampNeg < 8 := by decide +kernel
  have h0 : ¬ b < 0 := fun q => by
    apply h1
    rw [Int32.lt_iff_toInt_lt] at q ⊢
    have e1 : (0 : Int32).toInt = 0 := by decide
    have e2 : (97 : Int32).toInt = 97 := by decide
    omega
  obtain ⟨k, hk, rfl⟩ := nI_of2 (M := 104) (n := 104) (x := b) (by decide) h0 (by simpa using h2)
  have h4 : 97 ≤ k := Nat.le_of_not_lt fun q => h1 (nI_lt (a := k) (b := 97) q (by decide))
  have h5 := h3 (k - 97) (by omega)
  rw [show 97 + (k - 97) = k by omega] at h5
  exact h5
theorem NInv.ok {t : TX} {N : TG} (h : NInv t N) (h12 : t.1 ≤ 12) : NOK N := by
  have h1 := nsz_le t.1 t.2
  have h2 := h.1
  refine ⟨by omega, fun i hi => ?_⟩
  unfold nmR
  rw [h.2.2 i hi]
  exact let_in (nsz_ok (n := t.1) (by omega))
theorem GInv.le {t : TX} {G : TG} (h : GInv t G) (h47 : t.1 ≤ 47) : G.1 ≤ 8 := by
  rw [h.1]
  exact gsz_le h47
theorem lt_succ {x : Int32} {n : Nat} (hn : n + 1 < 2 ^ 31) (h : nI (n + 1) ≤ x) : nI n < x := by
  rw [Int32.le_iff_toInt_le, nI_toInt hn] at h
  rw [Int32.lt_iff_toInt_lt, nI_toInt (by omega)]
  omega
theorem out_lt {x : Int32} (h : x < 0) {n : Int} : x.toInt < 0 ∨ n < x.toInt := by
  rw [Int32.lt_iff_toInt_lt] at h
  exact Or.inl h
theorem out_ge {x : Int32} {n : Nat} (hn : n + 1 < 2 ^ 31) (h : nI (n + 1) ≤ x) : x.toInt < 0 ∨ (n : Int) < x.toInt := by
  rw [Int32.le_iff_toInt_le, nI_toInt hn] at h
  exact Or.inr (by omega)
set_option maxRecDepth 100000 in
theorem ev_X11_alive (t0 t1 : TX) (G N : TG) (T : TT) (C D : TC) (P : TP) (S : TS) (H0 H1 H2 H3 : TH) (ta : Nat → Int32) (lf : Int32) (x y : Int32) (hN : N.1 ≤ 12) (kk aa : Nat → Nat) (hk : ∀ t, t ≤ N.1 → C.2.2.2.2.2.2.1 t = nI (kk t) ∧ kk t ≤ 8 ∧ C.2.2.2.2.2.2.2.1 t = lN (aa t) ∧ aa t < 2 ^ 62) : Ev MX11_alive [.ref 0, .int x, .int y] (cwd t0 t1 G N T C D P S H0 H1 H2 H3 ta lf) (Rj (cwd t0 t1 G N T C D P S H0 H1 H2 H3 ta lf) (if x < 0 ∨ nI N.1 < x ∨ ¬ (y = 0 ∨ y = 1) then badL else tolL (aa x.toNatClampNeg) (4 * kk x.toNatClampNeg) y)) := by
  refine ev_of bX11_alive [some (.ref 0), some (.int x), some (.int y)] (Nat.le_of_ble_eq_true rfl) rfl ?_
  refine go_aload_n dX11_alive_0 rfl ?_
  refine go_iload_n dX11_alive_1 rfl ?_
  refine go_callVsi (z := MX11_isNumberOfNames) dX11_alive_2 lX11_144 sX11_isNumberOfNames (ev_X11_isNumberOfNames t0 t1 G N T C D P S H0 H1 H2 H3 ta lf x) rfl rfl rfl ⟨_, _, rfl⟩ rfl rfl ?_
  refine go_if_eq 15 dX11_alive_5 (by decide) (fun c_5 => ?_) (fun c_5 => ?_)
  · refine go_bipush (-2) dX11_alive_15 (by decide) ?_
    refine go_callSj (z := MX11_longRefusal) [] dX11_alive_17 lX11_152 sX11_longRefusal (ev_X11_longRefusal _) rfl rfl rfl rfl rfl rfl ?_
    refine go_lreturn dX11_alive_20 rfl (Nat.le_of_ble_eq_true rfl) (Nat.le_of_ble_eq_true rfl) ?_
    have hA : x < 0 ∨ nI N.1 < x ∨ ¬ (y = 0 ∨ y = 1) := by
      first
        | exact (full_t2 c_5).elim Or.inl (fun h => Or.inr (Or.inl h))
        | exact Or.inr (Or.inr (void0 c_12))
    exact ⟨by rw [if_pos hA]; rfl, rfl⟩
  · refine go_iload_n dX11_alive_8 rfl ?_
    refine go_callSi (z := MX11_isEither) [] dX11_alive_9 lX11_135 sX11_isEither (ev_X11_isEither _) rfl rfl rfl rfl rfl rfl ?_
    refine go_if_ne 21 dX11_alive_12 (by decide) (fun c_12 => ?_) (fun c_12 => ?_)
    · have hxn : x.toNatClampNeg ≤ N.1 := by
        obtain ⟨h1, h2⟩ := in_range (n := N.1 + 1) (fun q => full_t3 c_5 (Or.inl q)) (fun q => full_t3 c_5 (Or.inr (lt_succ (by omega) q))) (by omega)
        omega
      obtain ⟨h1, h2, h3, h4⟩ := hk x.toNatClampNeg hxn
      refine go_aload_n dX11_alive_21 rfl ?_
      refine go_getf fX11_45 dX11_alive_22 rfl rfl ?_
      refine go_getf fX11_156 dX11_alive_25 rfl rfl ?_
      refine go_iload_n dX11_alive_28 rfl ?_
      refine go_lald dX11_alive_29 rfl (vin_le c_5 (by omega)) ?_
      rw [h3]
      refine go_iconst (4) dX11_alive_30 (by decide) ?_
      refine go_aload_n dX11_alive_31 rfl ?_
      refine go_getf fX11_45 dX11_alive_32 rfl rfl ?_
      refine go_getf fX11_149 dX11_alive_35 rfl rfl ?_
      refine go_iload_n dX11_alive_38 rfl ?_
      refine go_iald dX11_alive_39 rfl (vin_le c_5 (by omega)) ?_
      rw [h1]
      refine go_imul dX11_alive_40 ?_
      rw [mul4]
      refine go_iload_n dX11_alive_41 rfl ?_
      refine go_callSj (z := MX1_told) [] dX11_alive_42 lX11_162 sX1_told (ev_X1_told (aa x.toNatClampNeg) (4 * kk x.toNatClampNeg) h4 (by omega) y) rfl rfl rfl rfl rfl rfl ?_
      refine go_lreturn dX11_alive_45 rfl (Nat.le_of_ble_eq_true rfl) (Nat.le_of_ble_eq_true rfl) ?_
      have hA : ¬ (x < 0 ∨ nI N.1 < x ∨ ¬ (y = 0 ∨ y = 1)) := by
        rintro (q | q | q)
        · exact full_t3 c_5 (Or.inl q)
        · exact full_t3 c_5 (Or.inr q)
        · exact q (void1 c_12)
      exact ⟨by rw [if_neg hA]; rfl, rfl⟩
    · refine go_bipush (-2) dX11_alive_15 (by decide) ?_
      refine go_callSj (z := MX11_longRefusal) [] dX11_alive_17 lX11_152 sX11_longRefusal (ev_X11_longRefusal _) rfl rfl rfl rfl rfl rfl ?_
      refine go_lreturn dX11_alive_20 rfl (Nat.le_of_ble_eq_true rfl) (Nat.le_of_ble_eq_true rfl) ?_
      have hA : x < 0 ∨ nI N.1 < x ∨ ¬ (y = 0 ∨ y = 1) := by
        first
          | exact (full_t2 c_5).elim Or.inl (fun h => Or.inr (Or.inl h))
          | exact Or.inr (Or.inr (void0 c_12))
      exact ⟨by rw [if_pos hA]; rfl, rfl⟩
set_option maxRecDepth 100000 in
theorem ev_X11_lives (t0 t1 : TX) (G N : TG) (T : TT) (C D : TC) (P : TP) (S : TS) (H0 H1 H2 H3 : TH) (ta : Nat → Int32) (lf : Int32) (y : Int32) (hN : N.1 ≤ 12) (hC : C.1 = nI N.1) (a gl : Nat) (hg : C.2.1 = nI gl) (hg8 : gl ≤ 8) (ha : (if C.2.2.2.2.2.2.1 N.1 < C.2.1 then 0 else C.2.2.2.2.2.2.2.1 N.1) = lN a) (ha2 : a < 2 ^ 62) : Ev MX11_lives [.ref 0, .int y] (cwd t0 t1 G N T C D P S H0 H1 H2 H3 ta lf) (Rj (cwd t0 t1 G N T C D P S H0 H1 H2 H3 ta lf) (if ¬ (y = 0 ∨ y = 1) then badL else tolL a (4 * gl) y)) := by
  refine ev_of bX11_lives [some (.ref 0), some (.int y)] (Nat.le_of_ble_eq_true rfl) rfl ?_
  obtain ⟨c1, C⟩ := C
  dsimp only at hC hg ha
  subst hC
  refine go_iload_n dX11_lives_0 rfl ?_
  refine go_callSi (z := MX11_isEither) [] dX11_lives_1 lX11_135 sX11_isEither (ev_X11_isEither _) rfl rfl rfl rfl rfl rfl ?_
  refine go_if_ne 13 dX11_lives_4 (by decide) (fun c_4 => ?_) (fun c_4 => ?_)
  · refine go_aload_n dX11_lives_13 rfl ?_
    refine go_getf fX11_45 dX11_lives_14 rfl rfl ?_
    refine go_callVj (z := MX0_livesAbove) [10, 11, 12, 13, 14, 15, 16, 17] dX11_lives_17 lX11_166 sX0_livesAbove (ev_X0_livesAbove _ _ _ _ _ _ _ _ _ N.1 hN) rfl rfl rfl rfl rfl ⟨_, _, rfl⟩ rfl rfl ?_
    rw [ha]
    refine go_iconst (4) dX11_lives_20 (by decide) ?_
    refine go_aload_n dX11_lives_21 rfl ?_
    refine go_getf fX11_45 dX11_lives_22 rfl rfl ?_
    refine go_getf fX11_170 dX11_lives_25 rfl rfl ?_
    rw [hg]
    refine go_imul dX11_lives_28 ?_
    rw [mul4]
    refine go_iload_n dX11_lives_29 rfl ?_
    refine go_callSj (z := MX1_told) [] dX11_lives_30 lX11_162 sX1_told (ev_X1_told a (4 * gl) ha2 (by omega) y) rfl rfl rfl rfl rfl rfl ?_
    refine go_lreturn dX11_lives_33 rfl (Nat.le_of_ble_eq_true rfl) (Nat.le_of_ble_eq_true rfl) ?_
    exact ⟨by rw [if_neg (fun q => q (void1 c_4))]; rfl, rfl⟩
  · refine go_bipush (-2) dX11_lives_7 (by decide) ?_
    refine go_callSj (z := MX11_longRefusal) [] dX11_lives_9 lX11_152 sX11_longRefusal (ev_X11_longRefusal _) rfl rfl rfl rfl rfl rfl ?_
    refine go_lreturn dX11_lives_12 rfl (Nat.le_of_ble_eq_true rfl) (Nat.le_of_ble_eq_true rfl) ?_
    exact ⟨by rw [if_pos (void0 c_4)]; rfl, rfl⟩
set_option maxRecDepth 100000 in
theorem ev_X11_harm (t0 t1 : TX) (G N : TG) (T : TT) (C D : TC) (P : TP) (S : TS) (H0 H1 H2 H3 : TH) (ta : Nat → Int32) (lf : Int32) (y : Int32) (a : Nat) (ha : C.2.2.1 = lN a) (ha2 : a < 2 ^ 62) : Ev MX11_harm [.ref 0, .int y] (cwd t0 t1 G N T C D P S H0 H1 H2 H3 ta lf) (Rj (cwd t0 t1 G N T C D P S H0 H1 H2 H3 ta lf) (if ¬ (y = 0 ∨ y = 1) then badL else tolL a 32 y)) := by
  refine ev_of bX11_harm [some (.ref 0), some (.int y)] (Nat.le_of_ble_eq_true rfl) rfl ?_
  refine go_iload_n dX11_harm_0 rfl ?_
  refine go_callSi (z := MX11_isEither) [] dX11_harm_1 lX11_135 sX11_isEither (ev_X11_isEither _) rfl rfl rfl rfl rfl rfl ?_
  refine go_if_ne 13 dX11_harm_4 (by decide) (fun c_4 => ?_) (fun c_4 => ?_)
  · refine go_aload_n dX11_harm_13 rfl ?_
    refine go_getf fX11_45 dX11_harm_14 rfl rfl ?_
    refine go_getf fX11_173 dX11_harm_17 rfl rfl ?_
    rw [ha]
    refine go_bipush (32) dX11_harm_20 (by decide) ?_
    refine go_iload_n dX11_harm_22 rfl ?_
    refine go_callSj (z := MX1_told) [] dX11_harm_23 lX11_162 sX1_told (ev_X1_told a 32 ha2 (by omega) y) rfl rfl rfl rfl rfl rfl ?_
    refine go_lreturn dX11_harm_26 rfl (Nat.le_of_ble_eq_true rfl) (Nat.le_of_ble_eq_true rfl) ?_
    exact ⟨by rw [if_neg (fun q => q (void1 c_4))]; rfl, rfl⟩
  · refine go_bipush (-2) dX11_harm_7 (by decide) ?_
    refine go_callSj (z := MX11_longRefusal) [] dX11_harm_9 lX11_152 sX11_longRefusal (ev_X11_longRefusal _) rfl rfl rfl rfl rfl rfl ?_
    refine go_lreturn dX11_harm_12 rfl (Nat.le_of_ble_eq_true rfl) (Nat.le_of_ble_eq_true rfl) ?_
    exact ⟨by rw [if_pos (void0 c_4)]; rfl, rfl⟩
def cntV (t0 t1 : TX) (G N : TG) (C : TC) (S : TS) (lf : Int32) (j : Nat) : Int32 := match j with
  | 0 => nI G.1
  | 1 => nI N.1
  | 2 => nI t0.1
  | 3 => nI t1.1
  | 4 => fgI C.2.2.2.1 N.1
  | 5 => C.2.2.2.2.2.2.1 N.1
  | 6 => nvI C.2.2.2.2.2.2.2.2.2 G.1
  | 7 => nI S.1
  | _ => lf
set_option maxRecDepth 100000 in
theorem ev_X11_count (t0 t1 : TX) (G N : TG) (T : TT) (C D : TC) (P : TP) (S : TS) (H0 H1 H2 H3 : TH) (ta : Nat → Int32) (lf : Int32) (x : Int32) (hN : N.1 ≤ 12) (hG : G.1 ≤ 8) (hC : C.1 = nI N.1) : Ev MX11_count [.ref 0, .int x] (cwd t0 t1 G N T C D P S H0 H1 H2 H3 ta lf) (Ri (cwd t0 t1 G N T C D P S H0 H1 H2 H3 ta lf) (if x < 0 ∨ 9 ≤ x then -2 else cntV t0 t1 G N C S lf x.toNatClampNeg)) := by
  refine ev_of bX11_count [some (.ref 0), some (.int x)] (Nat.le_of_ble_eq_true rfl) rfl ?_
  obtain ⟨c1, C⟩ := C
  dsimp only at hC
  subst hC
  refine go_iload_n dX11_count_0 rfl ?_
  rcases pk_ix x (n := 9) (by decide) with hx | hx | ⟨j, hj, rfl⟩
  · refine go_tblOut 136 dX11_count_1 (out_lt hx) (by decide) ?_
    refine go_bipush (-2) dX11_count_136 (by decide) ?_
    refine go_ireturn dX11_count_138 rfl rfl (Nat.le_of_ble_eq_true rfl) (Nat.le_of_ble_eq_true rfl) ?_
    exact ⟨by rw [if_pos (Or.inl hx)], rfl⟩
  · refine go_tblOut 136 dX11_count_1 (out_ge (n := 8) (by decide) hx) (by decide) ?_
    refine go_bipush (-2) dX11_count_136 (by decide) ?_
    refine go_ireturn dX11_count_138 rfl rfl (Nat.le_of_ble_eq_true rfl) (Nat.le_of_ble_eq_true rfl) ?_
    exact ⟨by rw [if_pos (show x < 0 ∨ 9 ≤ x from Or.inr hx)], rfl⟩
  · have hv : (if nI j < 0 ∨ 9 ≤ nI j then (-2 : Int32) else cntV t0 t1 G N (nI N.1, C) S lf (nI j).toNatClampNeg) = cntV t0 t1 G N (nI N.1, C) S lf j := by
      rw [if_neg, nI_clamp (by omega)]
      rintro (q | q)
      · exact nI_pos (by omega) q
      · exact nI_ge (a := j) (b := 9) hj (by decide) q
    rw [hv]
    match j, hj with
    | 0, _ =>
      refine go_tblIn 52 dX11_count_1 (by decide) (by decide) rfl (by decide) ?_
      refine go_aload_n dX11_count_52 rfl ?_
      refine go_getf fX11_24 dX11_count_53 rfl rfl ?_
      refine go_getf fX11_238 dX11_count_56 rfl rfl ?_
      refine go_ireturn dX11_count_59 rfl rfl (Nat.le_of_ble_eq_true rfl) (Nat.le_of_ble_eq_true rfl) ?_
      exact ⟨rfl, rfl⟩
    | 1, _ =>
      refine go_tblIn 60 dX11_count_1 (by decide) (by decide) rfl (by decide) ?_
      refine go_aload_n dX11_count_60 rfl ?_
      refine go_getf fX11_31 dX11_count_61 rfl rfl ?_
      refine go_getf fX11_134 dX11_count_64 rfl rfl ?_
      refine go_ireturn dX11_count_67 rfl rfl (Nat.le_of_ble_eq_true rfl) (Nat.le_of_ble_eq_true rfl) ?_
      exact ⟨rfl, rfl⟩
    | 2, _ =>
      refine go_tblIn 68 dX11_count_1 (by decide) (by decide) rfl (by decide) ?_
      refine go_aload_n dX11_count_68 rfl ?_
      refine go_getf fX11_14 dX11_count_69 rfl rfl ?_
      refine go_getf fX11_106 dX11_count_72 rfl rfl ?_
      refine go_ireturn dX11_count_75 rfl rfl (Nat.le_of_ble_eq_true rfl) (Nat.le_of_ble_eq_true rfl) ?_
      exact ⟨rfl, rfl⟩
    | 3, _ =>
      refine go_tblIn 76 dX11_count_1 (by decide) (by decide) rfl (by decide) ?_
      refine go_aload_n dX11_count_76 rfl ?_
      refine go_getf fX11_18 dX11_count_77 rfl rfl ?_
      refine go_getf fX11_106 dX11_count_80 rfl rfl ?_
      refine go_ireturn dX11_count_83 rfl rfl (Nat.le_of_ble_eq_true rfl) (Nat.le_of_ble_eq_true rfl) ?_
      exact ⟨rfl, rfl⟩
    | 4, _ =>
      refine go_tblIn 84 dX11_count_1 (by decide) (by decide) rfl (by decide) ?_
      refine go_aload_n dX11_count_84 rfl ?_
      refine go_getf fX11_45 dX11_count_85 rfl rfl ?_
      refine go_callVi (z := MX0_numberOfFights) [10, 11, 12, 13, 14, 15, 16, 17] dX11_count_88 lX11_289 sX0_numberOfFights (ev_X0_numberOfFights _ _ _ _ _ _ _ _ _ N.1 hN) rfl rfl rfl rfl rfl ⟨_, _, rfl⟩ rfl rfl ?_
      refine go_ireturn dX11_count_91 rfl rfl (Nat.le_of_ble_eq_true rfl) (Nat.le_of_ble_eq_true rfl) ?_
      exact ⟨rfl, rfl⟩
    | 5, _ =>
      refine go_tblIn 92 dX11_count_1 (by decide) (by decide) rfl (by decide) ?_
      refine go_aload_n dX11_count_92 rfl ?_
      refine go_getf fX11_45 dX11_count_93 rfl rfl ?_
      refine go_getf fX11_149 dX11_count_96 rfl rfl ?_
      refine go_aload_n dX11_count_99 rfl ?_
      refine go_getf fX11_45 dX11_count_100 rfl rfl ?_
      refine go_getf fX11_252 dX11_count_103 rfl rfl ?_
      refine go_iald dX11_count_106 rfl (vp_in_nI (by omega) (by decide)) ?_
      rw [nI_clamp (show N.1 < 2 ^ 31 by omega)]
      refine go_ireturn dX11_count_107 rfl rfl (Nat.le_of_ble_eq_true rfl) (Nat.le_of_ble_eq_true rfl) ?_
      exact ⟨rfl, rfl⟩
    | 6, _ =>
      refine go_tblIn 108 dX11_count_1 (by decide) (by decide) rfl (by decide) ?_
      refine go_aload_n dX11_count_108 rfl ?_
      refine go_getf fX11_45 dX11_count_109 rfl rfl ?_
      refine go_aload_n dX11_count_112 rfl ?_
      refine go_getf fX11_24 dX11_count_113 rfl rfl ?_
      refine go_getf fX11_238 dX11_count_116 rfl rfl ?_
      refine go_callVi (z := MX0_numberNotVoid) [10, 11, 12, 13, 14, 15, 16, 17] dX11_count_119 lX11_292 sX0_numberNotVoid (ev_X0_numberNotVoid _ _ _ _ _ _ _ _ _ _ G.1 hG) rfl rfl rfl rfl rfl ⟨_, _, rfl⟩ rfl rfl ?_
      refine go_ireturn dX11_count_122 rfl rfl (Nat.le_of_ble_eq_true rfl) (Nat.le_of_ble_eq_true rfl) ?_
      exact ⟨rfl, rfl⟩
    | 7, _ =>
      refine go_tblIn 123 dX11_count_1 (by decide) (by decide) rfl (by decide) ?_
      refine go_aload_n dX11_count_123 rfl ?_
      refine go_getf fX11_62 dX11_count_124 rfl rfl ?_
      refine go_getf fX11_215 dX11_count_127 rfl rfl ?_
      refine go_ireturn dX11_count_130 rfl rfl (Nat.le_of_ble_eq_true rfl) (Nat.le_of_ble_eq_true rfl) ?_
      exact ⟨rfl, rfl⟩
    | 8, _ =>
      refine go_tblIn 131 dX11_count_1 (by decide) (by decide) rfl (by decide) ?_
      refine go_aload_n dX11_count_131 rfl ?_
      refine go_getf fX11_269 dX11_count_132 rfl rfl ?_
      refine go_ireturn dX11_count_135 rfl rfl (Nat.le_of_ble_eq_true rfl) (Nat.le_of_ble_eq_true rfl) ?_
      exact ⟨rfl, rfl⟩
    | j + 9, h => exact absurd h (by omega)
set_option maxRecDepth 100000 in
theorem ev_X11_tryBribe (t0 t1 : TX) (G N : TG) (T : TT) (C D : TC) (P : TP) (S : TS) (H0 H1 H2 H3 : TH) (ta : Nat → Int32) (lf : Int32) (b : Int32) (hG : G.1 ≤ 8) (hN : NOK N) : Ev MX11_tryBribe [.ref 0, .int b] (cwd t0 t1 G N T C D P S H0 H1 H2 H3 ta lf) (fun v w => v = none ∧ ∃ D2 : TC, w = (cwd t0 t1 G N T C D2 P S H0 H1 H2 H3 ta lf) ∧ CrsT G.1 G.2.2 (nmR N.2.2) (nI T.1) (nI T.2.1) b N.1 D2) := by
  refine ev_of bX11_tryBribe [some (.ref 0), some (.int b)] (Nat.le_of_ble_eq_true rfl) rfl ?_
  refine go_aload_n dX11_tryBribe_0 rfl ?_
  refine go_getf fX11_49 dX11_tryBribe_1 rfl rfl ?_
  refine go_aload_n dX11_tryBribe_4 rfl ?_
  refine go_getf fX11_24 dX11_tryBribe_5 rfl rfl ?_
  refine go_aload_n dX11_tryBribe_8 rfl ?_
  refine go_getf fX11_31 dX11_tryBribe_9 rfl rfl ?_
  refine go_aload_n dX11_tryBribe_12 rfl ?_
  refine go_getf fX11_38 dX11_tryBribe_13 rfl rfl ?_
  refine go_getf fX11_77 dX11_tryBribe_16 rfl rfl ?_
  refine go_aload_n dX11_tryBribe_19 rfl ?_
  refine go_getf fX11_38 dX11_tryBribe_20 rfl rfl ?_
  refine go_getf fX11_81 dX11_tryBribe_23 rfl rfl ?_
  refine go_iload_n dX11_tryBribe_26 rfl ?_
  refine go_callV (z := MX0_walk) [18, 19, 20, 21, 22, 23, 24, 25, 5, 6, 7, 8] dX11_tryBribe_27 lX11_204 sX0_walk (ev_X0_walk _ _ _ _ _ _ _ _ _ _ G.1 N.1 hG hN.1 _ _ G.2.2 N.2.2 (nmR N.2.2) (fun i hi => (hN.2 i hi).1) (fun i hi => (hN.2 i hi).2) (nI T.1) (nI T.2.1) b) rfl rfl rfl rfl rfl ⟨_, _, rfl⟩ (fit_of rfl) (res_of rfl) (fun v w1 h => by obtain ⟨-, _, _, _, _, _, _, _, rfl, -⟩ := h; rfl) (fun v_27 w_27 h_27 => ?_)
  obtain ⟨rfl, cm, sx, sg, wn, inn, ft, ab, rfl, hI⟩ := h_27
  refine go_return dX11_tryBribe_30 rfl (Nat.le_of_ble_eq_true rfl) (Nat.le_of_ble_eq_true rfl) ?_
  exact ⟨rfl, (nI N.1, nI T.2.1, _, cm, sx, sg, wn, ab, inn, ft), rfl, rfl, rfl, hI⟩
set_option maxRecDepth 100000 in
theorem ev_X11_reckonAnew (t0 t1 : TX) (G N : TG) (T : TT) (C D : TC) (P : TP) (S : TS) (H0 H1 H2 H3 : TH) (ta : Nat → Int32) (lf : Int32) (hG : G.1 ≤ 8) (hN : NOK N) : Ev MX11_reckonAnew [.ref 0] (cwd t0 t1 G N T C D P S H0 H1 H2 H3 ta lf) (fun v w => v = none ∧ ∃ C2 : TC, w = (cwd t0 t1 G N T C2 D (pmk P 0) S H0 H1 H2 H3 ta lf) ∧ CrsT G.1 G.2.2 (nmR N.2.2) (nI T.1) (nI T.2.1) (nI T.2.2) N.1 C2) := by
  refine ev_of bX11_reckonAnew [some (.ref 0)] (Nat.le_of_ble_eq_true rfl) rfl ?_
  refine go_aload_n dX11_reckonAnew_0 rfl ?_
  refine go_getf fX11_45 dX11_reckonAnew_1 rfl rfl ?_
  refine go_aload_n dX11_reckonAnew_4 rfl ?_
  refine go_getf fX11_24 dX11_reckonAnew_5 rfl rfl ?_
  refine go_aload_n dX11_reckonAnew_8 rfl ?_
  refine go_getf fX11_31 dX11_reckonAnew_9 rfl rfl ?_
  refine go_aload_n dX11_reckonAnew_12 rfl ?_
  refine go_getf fX11_38 dX11_reckonAnew_13 rfl rfl ?_
  refine go_getf fX11_77 dX11_reckonAnew_16 rfl rfl ?_
  refine go_aload_n dX11_reckonAnew_19 rfl ?_
  refine go_getf fX11_38 dX11_reckonAnew_20 rfl rfl ?_
  refine go_getf fX11_81 dX11_reckonAnew_23 rfl rfl ?_
  refine go_aload_n dX11_reckonAnew_26 rfl ?_
  refine go_getf fX11_38 dX11_reckonAnew_27 rfl rfl ?_
  refine go_getf fX11_201 dX11_reckonAnew_30 rfl rfl ?_
  refine go_callV (z := MX0_walk) [10, 11, 12, 13, 14, 15, 16, 17, 5, 6, 7, 8] dX11_reckonAnew_33 lX11_204 sX0_walk (ev_X0_walk _ _ _ _ _ _ _ _ _ _ G.1 N.1 hG hN.1 _ _ G.2.2 N.2.2 (nmR N.2.2) (fun i hi => (hN.2 i hi).1) (fun i hi => (hN.2 i hi).2) (nI T.1) (nI T.2.1) (nI T.2.2)) rfl rfl rfl rfl rfl ⟨_, _, rfl⟩ (fit_of rfl) (res_of rfl) (fun v w1 h => by obtain ⟨-, _, _, _, _, _, _, _, rfl, -⟩ := h; rfl) (fun v_33 w_33 h_33 => ?_)
  obtain ⟨rfl, cm, sx, sg, wn, inn, ft, ab, rfl, hI⟩ := h_33
  refine go_aload_n dX11_reckonAnew_36 rfl ?_
  refine go_getf fX11_55 dX11_reckonAnew_37 rfl rfl ?_
  refine go_iconst (0) dX11_reckonAnew_40 (by decide) ?_
  refine go_putf fX11_378 dX11_reckonAnew_41 rfl (fun _ _ _ h => by cases h; rfl) (fun _ => rfl) (fun _ => rfl) (Nat.le_of_ble_eq_true rfl) ?_
  refine go_return dX11_reckonAnew_44 rfl (Nat.le_of_ble_eq_true rfl) (Nat.le_of_ble_eq_true rfl) ?_
  exact ⟨rfl, (nI N.1, nI T.2.1, _, cm, sx, sg, wn, ab, inn, ft), rfl, rfl, rfl, hI⟩
set_option maxRecDepth 100000 in
theorem ev_readAnew0 (t0 t1 : TX) (G N : TG) (T : TT) (C D : TC) (P : TP) (S : TS) (H0 H1 H2 H3 : TH) (ta : Nat → Int32) (lf : Int32) (h47 : t0.1 ≤ 47) (hN : NOK N) : Ev MX11_readAnew [.ref 0, .int 0] (cwd t0 t1 G N T C D P S H0 H1 H2 H3 ta lf) (fun v w => v = none ∧ ∃ (G2 : TG) (C2 : TC), w = (cwd t0 t1 G2 N T C2 D (pmk P 0) S H0 H1 H2 H3 ta lf) ∧ GInv t0 G2 ∧ CrsT G2.1 G2.2.2 (nmR N.2.2) (nI T.1) (nI T.2.1) (nI T.2.2) N.1 C2) := by
  refine ev_of bX11_readAnew [some (.ref 0), some (.int 0)] (Nat.le_of_ble_eq_true rfl) rfl ?_
  refine go_iload_n dX11_readAnew_0 rfl ?_
  refine go_if_ne 18 dX11_readAnew_1 (by decide) (fun c_1 => absurd (by decide) c_1) (fun _ => ?_)
  refine go_aload_n dX11_readAnew_4 rfl ?_
  refine go_getf fX11_24 dX11_readAnew_5 rfl rfl ?_
  refine go_aload_n dX11_readAnew_8 rfl ?_
  refine go_getf fX11_14 dX11_readAnew_9 rfl rfl ?_
  refine go_callV (z := MX2_parse) [5, 6, 1, 2] dX11_readAnew_12 lX11_373 sX2_parse (ev_X2_parse t0.1 47 h47 h47 (by decide) _ _ _ _) rfl rfl rfl rfl rfl ⟨_, _, rfl⟩ (fit_of rfl) (res_of rfl) (fun v w1 h => by obtain ⟨-, _, rfl, -⟩ := h; rfl) (fun v_12 w_12 h_12 => ?_)
  obtain ⟨rfl, pf2, rfl, hpf⟩ := h_12
  have hGI : GInv t0 (gsz t0.1 t0.2, fltI t0.1 t0.2, pf2) := ⟨rfl, rfl, hpf⟩
  have k9 := ev_X11_reckonAnew t0 t1 (gsz t0.1 t0.2, fltI t0.1 t0.2, pf2) N T C D P S H0 H1 H2 H3 ta lf (hGI.le h47) hN
  refine go_goto 29 dX11_readAnew_15 (by decide) ?_
  refine go_aload_n dX11_readAnew_29 rfl ?_
  refine go_callVs (z := MX11_reckonAnew) dX11_readAnew_30 lX11_131 sX11_reckonAnew (k9) rfl rfl rfl ⟨_, _, rfl⟩ rfl rfl (fun v w1 h => by obtain ⟨-, C2, rfl, -⟩ := h; rfl) (fun v_30 w_30 h_30 => ?_)
  obtain ⟨rfl, C2, rfl, hC2⟩ := h_30
  refine go_return dX11_readAnew_33 rfl (Nat.le_of_ble_eq_true rfl) (Nat.le_of_ble_eq_true rfl) ?_
  exact ⟨rfl, _, C2, rfl, hGI, hC2⟩
set_option maxRecDepth 100000 in
theorem ev_readAnew1 (t0 t1 : TX) (G N : TG) (T : TT) (C D : TC) (P : TP) (S : TS) (H0 H1 H2 H3 : TH) (ta : Nat → Int32) (lf : Int32) (h12 : t1.1 ≤ 12) (hG : G.1 ≤ 8) : Ev MX11_readAnew [.ref 0, .int 1] (cwd t0 t1 G N T C D P S H0 H1 H2 H3 ta lf) (fun v w => v = none ∧ ∃ (N2 : TG) (C2 : TC), w = (cwd t0 t1 G N2 T C2 D (pmk P 0) S H0 H1 H2 H3 ta lf) ∧ NInv t1 N2 ∧ CrsT G.1 G.2.2 (nmR N2.2.2) (nI T.1) (nI T.2.1) (nI T.2.2) N2.1 C2) := by
  refine ev_of bX11_readAnew [some (.ref 0), some (.int 1)] (Nat.le_of_ble_eq_true rfl) rfl ?_
  refine go_iload_n dX11_readAnew_0 rfl ?_
  refine go_if_ne 18 dX11_readAnew_1 (by decide) (fun _ => ?_) (fun c_1 => absurd c_1 (by decide))
  refine go_aload_n dX11_readAnew_18 rfl ?_
  refine go_getf fX11_31 dX11_readAnew_19 rfl rfl ?_
  refine go_aload_n dX11_readAnew_22 rfl ?_
  refine go_getf fX11_18 dX11_readAnew_23 rfl rfl ?_
  refine go_callV (z := MX4_parse) [7, 8, 3, 4] dX11_readAnew_26 lX11_377 sX4_parse (ev_X4_parse t1.1 12 h12 h12 (by decide) _ _ _ _) rfl rfl rfl rfl rfl ⟨_, _, rfl⟩ (fit_of rfl) (res_of rfl) (fun v w1 h => by obtain ⟨-, _, rfl, -⟩ := h; rfl) (fun v_26 w_26 h_26 => ?_)
  obtain ⟨rfl, r2, rfl, hr2⟩ := h_26
  have hNI : NInv t1 (nsz t1.1 t1.2, nfl t1.1 t1.2, r2) := ⟨rfl, rfl, hr2⟩
  have k9 := ev_X11_reckonAnew t0 t1 G (nsz t1.1 t1.2, nfl t1.1 t1.2, r2) T C D P S H0 H1 H2 H3 ta lf hG (hNI.ok h12)
  refine go_aload_n dX11_readAnew_29 rfl ?_
  refine go_callVs (z := MX11_reckonAnew) dX11_readAnew_30 lX11_131 sX11_reckonAnew (k9) rfl rfl rfl ⟨_, _, rfl⟩ rfl rfl (fun v w1 h => by obtain ⟨-, C2, rfl, -⟩ := h; rfl) (fun v_30 w_30 h_30 => ?_)
  obtain ⟨rfl, C2, rfl, hC2⟩ := h_30
  refine go_return dX11_readAnew_33 rfl (Nat.le_of_ble_eq_true rfl) (Nat.le_of_ble_eq_true rfl) ?_
  exact ⟨rfl, _, C2, rfl, hNI, hC2⟩
