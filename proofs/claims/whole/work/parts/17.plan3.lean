theorem lst_some {p : Nat → Bool} : ∀ {d i f : Nat}, lst p d i = some f → p f = true ∧ i ≤ f ∧ f < i + d
  | 0, i, f, h => by simp [lst] at h
  | d + 1, i, f, h => by
    rw [lst] at h
    split at h
    · rename_i q
      cases h
      exact ⟨q, by omega, by omega⟩
    · have := lst_some h
      exact ⟨this.1, by omega, by omega⟩
theorem lcmp_le0 {a : Nat} (ha : a < 2 ^ 62) : lg_cmp (lN a) 0 ≤ 0 ↔ a = 0 := by
  unfold lg_cmp
  by_cases h : a = 0
  · subst h; decide
  · have h1 : lN a > 0 := (pk_lLT (a := 0) (by decide) (by omega)).mpr (by omega)
    rw [if_pos h1]
    simp [h]
theorem getD_app {pre l : List Nat} {j : Nat} (h : j < pre.length) : (pre ++ l).getD j 0 = pre.getD j 0 := by
  simp [List.getD_eq_getElem?_getD, List.getElem?_append_left h]
theorem getD_app1 {pre l : List Nat} {x : Nat} : (pre ++ x :: l).getD pre.length 0 = x := by
  simp [List.getD_eq_getElem?_getD]
def cF (pf : Nat → Int32) (br : Int32) (f : Nat) : Int32 := ansI (pf (5 * f)) (pf (5 * f + 3)) (pf (5 * f + 2)) br
def fcN (pf : Nat → Int32) (br : Int32) (f s : Nat) : Nat := (if winI (cF pf br f) = 0 then 1 else sixI (cF pf br f) (nI s) (pf (5 * f + 1))).toNatClampNeg
def nxN (pf : Nat → Int32) (br : Int32) (s0 f s : Nat) : Nat := (strI (cF pf br f) (nI s) (nI s0)).toNatClampNeg
def lvN (pf : Nat → Int32) (br : Int32) : Nat → Nat
  | 0 => 0
  | f + 1 => lvN pf br f ||| (if winI (cF pf br f) = 0 then 0 else 2 ^ f)
def GOK (g : Nat) (pf : Nat → Int32) : Prop := ∀ f, f < g → ∃ a, a ≤ 9 ∧ pf (5 * f + 1) = nI a
theorem ans_in (k u g b : Int32) : ∃ c, c < 5 ∧ ansI k u g b = nI c := by
  unfold ansI
  repeat' split
  · exact ⟨4, by decide, rfl⟩
  · exact ⟨1, by decide, rfl⟩
  · exact ⟨2, by decide, rfl⟩
  · exact ⟨3, by decide, rfl⟩
theorem fc_dec : ∀ c, c < 5 → ∀ a, a < 10 → ∀ s, s < 10 → (if winI (nI c) = 0 then (1 : Int32) else sixI (nI c) (nI s) (nI a)) = nI (if winI (nI c) = 0 then (1 : Int32) else sixI (nI c) (nI s) (nI a)).toNatClampNeg ∧ (if winI (nI c) = 0 then (1 : Int32) else sixI (nI c) (nI s) (nI a)).toNatClampNeg ≤ 16 := by decide +kernel
theorem nx_dec : ∀ c, c < 5 → ∀ t, t < 10 → ∀ s, s < 10 → s ≤ t → strI (nI c) (nI s) (nI t) = nI (strI (nI c) (nI s) (nI t)).toNatClampNeg ∧ (strI (nI c) (nI s) (nI t)).toNatClampNeg ≤ t ∧ s ≤ (strI (nI c) (nI s) (nI t)).toNatClampNeg + (if winI (nI c) = 0 then 0 else 1) := by decide +kernel
theorem fc_ok {g : Nat} {pf : Nat → Int32} (hG : GOK g pf) (br : Int32) {f s : Nat} (hf : f < g) (hs : s ≤ 9) : (if winI (cF pf br f) = 0 then (1 : Int32) else sixI (cF pf br f) (nI s) (pf (5 * f + 1))) = nI (fcN pf br f s) ∧ fcN pf br f s ≤ 16 := by
  obtain ⟨a, ha, e⟩ := hG f hf
  obtain ⟨c, hc, ec⟩ := ans_in (pf (5 * f)) (pf (5 * f + 3)) (pf (5 * f + 2)) br
  have h := fc_dec c hc a (by omega) s (by omega)
  unfold fcN cF
  rw [ec, e]
  exact h
theorem nx_ok {pf : Nat → Int32} (br : Int32) {f s s0 : Nat} (hs : s ≤ s0) (h0 : s0 ≤ 9) : strI (cF pf br f) (nI s) (nI s0) = nI (nxN pf br s0 f s) ∧ nxN pf br s0 f s ≤ s0 ∧ s ≤ nxN pf br s0 f s + (if winI (cF pf br f) = 0 then 0 else 1) := by
  obtain ⟨c, hc, ec⟩ := ans_in (pf (5 * f)) (pf (5 * f + 3)) (pf (5 * f + 2)) br
  have h := nx_dec c hc s0 (by omega) s (by omega) hs
  unfold nxN cF
  rw [ec]
  exact h
theorem lv_bit (pf : Nat → Int32) (br : Int32) (g f : Nat) : (lvN pf br g).testBit f = (decide (f < g) && decide (¬ winI (cF pf br f) = 0)) := by
  induction g with
  | zero => simp [lvN]
  | succ g ih =>
    rw [lvN, Nat.testBit_or, ih]
    by_cases h : winI (cF pf br g) = 0
    · rw [if_pos h]
      by_cases hf : f = g
      · subst hf; simp [h]
      · have : (f < g + 1) ↔ f < g := by omega
        simp [this]
    · rw [if_neg h, Nat.testBit_two_pow]
      by_cases hf : f = g
      · subst hf; simp [h]
      · have h1 : (f < g + 1) ↔ f < g := by omega
        simp [h1, Ne.symm hf]
theorem lvN_lt (pf : Nat → Int32) (br : Int32) (g : Nat) : lvN pf br g < 2 ^ g := by
  induction g with
  | zero => simp [lvN]
  | succ g ih =>
    rw [lvN]
    have h1 : (2 : Nat) ^ g < 2 ^ (g + 1) := Nat.pow_lt_pow_right (by decide) (by omega)
    refine Nat.or_lt_two_pow (by omega) ?_
    split <;> omega
theorem plan_bd {g : Nat} {pf : Nat → Int32} (hG : GOK g pf) (br : Int32) {s0 : Nat} (h0 : s0 ≤ 9) : FBd g s0 (lvN pf br g) (fcN pf br) (nxN pf br s0) := by
  intro f s hf hs
  have h1 := fc_ok hG br hf (show s ≤ 9 by omega)
  have h2 := nx_ok (pf := pf) (f := f) br hs h0
  refine ⟨h1.2, h2.2.1, ?_, fun hl => ?_⟩
  · have h3 := h2.2.2
    rw [lv_bit]
    by_cases hw : winI (cF pf br f) = 0
    · rw [if_pos hw] at h3
      omega
    · rw [if_neg hw] at h3
      simp [hf, hw, b2n]
      exact h3
  · rw [lv_bit] at hl
    have hw : winI (cF pf br f) = 0 := by simpa [hf] using hl
    unfold fcN
    rw [if_pos hw]
    rfl
def PlanOK (g : Nat) (pf : Nat → Int32) (s0 gl : Nat) (br : Int32) (len : Nat) (rw2 : Nat → Int32) (v0 : Nat) : Prop :=
  ∃ vt : Nat → Nat → Nat, (∀ m, m < 2 ^ g → IsV g (lvN pf br g) gl s0 (fcN pf br) (nxN pf br s0) vt m) ∧ v0 = vt 0 s0 ∧ len = (if v0 = 0 then 0 else (grow g (lvN pf br g) gl (fcN pf br) (nxN pf br s0) vt g 0 s0).length) ∧ ∀ j, j < len → rw2 j = nI ((grow g (lvN pf br g) gl (fcN pf br) (nxN pf br s0) vt g 0 s0).getD j 0)
theorem min8g {g : Nat} (h : g ≤ 8) : (if nI g < (8 : Int32) then nI g else 8) = nI g := by
  by_cases h2 : g = 8
  · subst h2; rfl
  · exact if_pos (nI_lt (a := g) (b := 8) (by omega) (by decide))
theorem cap9 {k : Nat} (h : k ≤ 9) : (if (0 : Int32) < (if nI k < (9 : Int32) then nI k else 9) then (if nI k < (9 : Int32) then nI k else 9) else 0) = nI k := by
  have e : (if nI k < (9 : Int32) then nI k else 9) = nI k := by
    by_cases h2 : k = 9
    · subst h2; rfl
    · exact if_pos (nI_lt (a := k) (b := 9) (by omega) (by decide))
  rw [e]
  by_cases h2 : k = 0
  · subst h2; rfl
  · exact if_pos (nI_lt (a := 0) (b := k) (by omega) (by omega))
theorem grow_len (g lv gl : Nat) (fc nx vt : Nat → Nat → Nat) : ∀ (d m s : Nat), (grow g lv gl fc nx vt d m s).length ≤ d
  | 0, m, s => by simp [grow]
  | d + 1, m, s => by
    rw [grow]
    split
    · simp
    · split
      · simp
      · rename_i f _
        have := grow_len g lv gl fc nx vt d (m ||| 2 ^ f) (nx f s)
        simp only [List.length_cons]
        omega
set_option maxRecDepth 100000 in
theorem ev_X5_layRow (mk : Int32) (abv : Int64) (val : Nat → Int64) (fac stb rw_ : Nat → Int32) (g lv s0 gl : Nat) (hg : g ≤ 8) (hl : lv < 256) (hs0 : s0 ≤ 9) (hgl : gl ≤ 8) (fc nx : Nat → Nat → Nat) (hT : FTb g s0 fc nx fac stb) (hB : FBd g s0 lv fc nx) (vt : Nat → Nat → Nat) (hV : ∀ m, m < 2 ^ g → IsV g lv gl s0 fc nx vt m ∧ VAt lv s0 val vt m) : Ev MX5_layRow [.ref 0] [zO 4 [.ref 1, .ref 2, .ref 3, .ref 4, .int (nI g), .int (nI lv), .int (nI s0), .int (nI gl), .int 0, .long abv, .int mk], zL 2560 val, zI 80 fac, zI 80 stb, zI 8 rw_] (fun v w => v = none ∧ ∃ rw2 : Nat → Int32, w = [zO 4 [.ref 1, .ref 2, .ref 3, .ref 4, .int (nI g), .int (nI lv), .int (nI s0), .int (nI gl), .int (nI (grow g lv gl fc nx vt g 0 s0).length), .long abv, .int mk], zL 2560 val, zI 80 fac, zI 80 stb, zI 8 rw2] ∧ ∀ j, j < (grow g lv gl fc nx vt g 0 s0).length → rw2 j = nI ((grow g lv gl fc nx vt g 0 s0).getD j 0)) := by
  refine ev_of bX5_layRow [some (.ref 0), none, none, none, none] (Nat.le_of_ble_eq_true rfl) rfl ?_
  refine go_iconst (0) dX5_layRow_0 (by decide) ?_
  refine go_istore_n dX5_layRow_1 (by decide) ?_
  refine go_aload_n dX5_layRow_2 rfl ?_
  refine go_getf fX5_52 dX5_layRow_3 rfl rfl ?_
  refine go_istore_n dX5_layRow_6 (by decide) ?_
  refine go_iconst (0) dX5_layRow_7 (by decide) ?_
  refine go_istore_n dX5_layRow_8 (by decide) ?_
  have h2g : 2 ^ g ≤ 2 ^ 8 := Nat.pow_le_pow_right (by decide) hg
  suffices loop : ∀ (d i m s : Nat) (pre : List Nat) (rw_ : Nat → Int32) (x4 : Option Value), i + d = g → m < 2 ^ g → okr lv s0 m s → grow g lv gl fc nx vt g 0 s0 = pre ++ grow g lv gl fc nx vt d m s → pre.length = i → (∀ j, j < i → rw_ j = nI (pre.getD j 0)) → Go X0 MX5_layRow (fun v w => v = none ∧ ∃ rw2 : Nat → Int32, w = [zO 4 [.ref 1, .ref 2, .ref 3, .ref 4, .int (nI g), .int (nI lv), .int (nI s0), .int (nI gl), .int (nI (grow g lv gl fc nx vt g 0 s0).length), .long abv, .int mk], zL 2560 val, zI 80 fac, zI 80 stb, zI 8 rw2] ∧ ∀ j, j < (grow g lv gl fc nx vt g 0 s0).length → rw2 j = nI ((grow g lv gl fc nx vt g 0 s0).getD j 0)) 5 0 0 9 [some (.ref 0), some (.int (nI m)), some (.int (nI s)), some (.int (nI i)), x4] [] [zO 4 [.ref 1, .ref 2, .ref 3, .ref 4, .int (nI g), .int (nI lv), .int (nI s0), .int (nI gl), .int (nI i), .long abv, .int mk], zL 2560 val, zI 80 fac, zI 80 stb, zI 8 rw_] from loop g 0 0 s0 [] rw_ _ (by omega) (Nat.pow_pos (by decide)) ⟨Nat.le_refl _, by omega⟩ rfl rfl (fun j h => absurd h (by omega))
  intro d
  induction d with
  | zero =>
    intro i m s pre rw_ x4 hi hm hok hl hp hr
    have hl : grow g lv gl fc nx vt g 0 s0 = pre := by rw [hl]; exact List.append_nil _
    refine go_iload_n dX5_layRow_9 rfl ?_
    refine go_aload_n dX5_layRow_10 rfl ?_
    refine go_getf fX5_41 dX5_layRow_11 rfl rfl ?_
    refine go_icmp_ge 87 dX5_layRow_14 (by decide) (fun _ => ?_) (fun c_14 => absurd (nI_le (by omega) (by omega)) c_14)
    refine go_return dX5_layRow_87 rfl (Nat.le_of_ble_eq_true rfl) (Nat.le_of_ble_eq_true rfl) ?_
    exact ⟨rfl, rw_, by rw [hl, hp], fun j h => by rw [hl] at h ⊢; exact hr j (by omega)⟩
  | succ d ih =>
    intro i m s pre rw_ x4 hi hm hok hgr hp hr
    rw [grow] at hgr
    have hcl := cnt8_le (m &&& lv)
    have hos := hok.1
    have hnext : ∀ f, f < g → m.testBit f = false → val (10 * (m ||| 2 ^ f) + nx f s) = lN (vt (m ||| 2 ^ f) (nx f s)) ∧ vt (m ||| 2 ^ f) (nx f s) ≤ 2 ^ 32 := fun f hf hb => by
      have hh := hV (m ||| 2 ^ f) (or_lt hm hf)
      have ho := okr_nx hB hf hg hb hok
      exact ⟨hh.2 _ ho, Nat.le_trans (hh.1 _ ho).2 (pow16 (by omega))⟩
    have hvm := (hV m hm).2 s hok
    have hvb : vt m s ≤ 2 ^ 32 := Nat.le_trans ((hV m hm).1 s hok).2 (pow16 (by omega))
    refine go_iload_n dX5_layRow_9 rfl ?_
    refine go_aload_n dX5_layRow_10 rfl ?_
    refine go_getf fX5_41 dX5_layRow_11 rfl rfl ?_
    refine go_icmp_ge 87 dX5_layRow_14 (by decide) (fun c_14 => absurd c_14 (nI_ge (by omega) (by omega))) (fun _ => ?_)
    refine go_aload_n dX5_layRow_17 rfl ?_
    refine go_iload_n dX5_layRow_18 rfl ?_
    refine go_callVi (z := MX5_winsOf) [0, 1, 2, 3, 4] dX5_layRow_19 lX5_108 sX5_winsOf (ev_X5_winsOf _ _ _ _ _ _ _ _ _ _ lv m hl (by omega)) rfl rfl rfl rfl rfl ⟨_, _, rfl⟩ rfl rfl ?_
    refine go_aload_n dX5_layRow_22 rfl ?_
    refine go_getf fX5_58 dX5_layRow_23 rfl rfl ?_
    refine go_icmp_ge 87 dX5_layRow_26 (by decide) (fun c_26 => ?_) (fun c_26 => ?_)
    · have hw : gl ≤ cnt8 (m &&& lv) := Nat.le_of_not_lt fun q => absurd c_26 (nI_ge q (by omega))
      rw [if_pos hw, List.append_nil] at hgr
      refine go_return dX5_layRow_87 rfl (Nat.le_of_ble_eq_true rfl) (Nat.le_of_ble_eq_true rfl) ?_
      exact ⟨rfl, rw_, by rw [hgr, hp], fun j h => by rw [hgr] at h ⊢; exact hr j (by omega)⟩
    · refine go_aload_n dX5_layRow_29 rfl ?_
      refine go_iload_n dX5_layRow_30 rfl ?_
      refine go_iload_n dX5_layRow_31 rfl ?_
      refine go_callVi (z := MX5_leastNext) [0, 1, 2, 3, 4] dX5_layRow_32 lX5_122 sX5_leastNext (ev_X5_leastNext _ _ _ _ _ _ _ g lv s0 gl hg hl hs0 hgl fc nx hT hB vt m s (by omega) (by omega) hnext hvm hvb) rfl rfl rfl rfl rfl ⟨_, _, rfl⟩ rfl rfl ?_
      have hw : ¬ gl ≤ cnt8 (m &&& lv) := fun q => c_26 (nI_le q (by omega))
      rw [if_neg hw] at hgr
      cases hls : lst (pnx fc nx vt m s) g 0 with
      | none =>
        rw [hls] at hgr
        simp only [List.append_nil] at hgr
        refine go_istore dX5_layRow_35 (by decide) ?_
        refine go_iload dX5_layRow_37 rfl ?_
        refine go_iconst (-1) dX5_layRow_39 (by decide) ?_
        refine go_icmp_ne 46 dX5_layRow_40 (by decide) (fun c_40 => absurd (by decide) c_40) (fun _ => ?_)
        refine go_goto 87 dX5_layRow_43 (by decide) ?_
        refine go_return dX5_layRow_87 rfl (Nat.le_of_ble_eq_true rfl) (Nat.le_of_ble_eq_true rfl) ?_
        exact ⟨rfl, rw_, by rw [hgr, hp], fun j h => by rw [hgr] at h ⊢; exact hr j (by omega)⟩
      | some f =>
        rw [hls] at hgr
        simp only at hgr
        obtain ⟨hp1, -, hf⟩ := lst_some hls
        have hf : f < g := by omega
        have hmb : m.testBit f = false := by
          simp only [pnx, Bool.and_eq_true, Bool.not_eq_true'] at hp1
          exact hp1.1
        have ⟨_, hT2⟩ := hT f s hf hos
        refine go_istore dX5_layRow_35 (by decide) ?_
        refine go_iload dX5_layRow_37 rfl ?_
        refine go_iconst (-1) dX5_layRow_39 (by decide) ?_
        refine go_icmp_ne 46 dX5_layRow_40 (by decide) (fun _ => ?_) (fun c_40 => absurd c_40 (nI_ne1 (by omega)))
        refine go_aload_n dX5_layRow_46 rfl ?_
        refine go_getf fX5_22 dX5_layRow_47 rfl rfl ?_
        refine go_iload_n dX5_layRow_50 rfl ?_
        refine go_iload dX5_layRow_51 rfl ?_
        refine go_iast dX5_layRow_53 rfl (vp_in_nI (by omega) (by decide)) ?_
        refine go_aload_n dX5_layRow_54 rfl ?_
        refine go_iload_n dX5_layRow_55 rfl ?_
        refine go_iconst (1) dX5_layRow_56 (by decide) ?_
        refine go_iadd dX5_layRow_57 ?_
        rw [nI_1]
        refine go_putf fX5_84 dX5_layRow_58 rfl (fun _ _ _ h => by cases h; rfl) (fun _ => rfl) (fun _ => rfl) (Nat.le_of_ble_eq_true rfl) ?_
        refine go_iload_n dX5_layRow_61 rfl ?_
        refine go_iconst (1) dX5_layRow_62 (by decide) ?_
        refine go_iload dX5_layRow_63 rfl ?_
        refine go_ishl dX5_layRow_65 ?_
        refine go_ior dX5_layRow_66 ?_
        rw [sh1 f (by omega), fa_or]
        refine go_istore_n dX5_layRow_67 (by decide) ?_
        refine go_aload_n dX5_layRow_68 rfl ?_
        refine go_getf fX5_19 dX5_layRow_69 rfl rfl ?_
        refine go_iload dX5_layRow_72 rfl ?_
        refine go_bipush (10) dX5_layRow_74 (by decide) ?_
        refine go_imul dX5_layRow_76 ?_
        refine go_iload_n dX5_layRow_77 rfl ?_
        refine go_iadd dX5_layRow_78 ?_
        rw [show nI f * 10 + nI s = nI (10 * f + s) by rw [show (10 : Int32) = nI 10 from rfl, pk_mul, nI_add]; exact nI_e (by omega)]
        refine go_iald dX5_layRow_79 rfl (vp_in_nI (by omega) (by decide)) ?_
        rw [nI_clamp (show 10 * f + s < 2 ^ 31 by omega), hT2]
        refine go_istore_n dX5_layRow_80 (by decide) ?_
        refine go_iincN (1) dX5_layRow_81 rfl (by decide) (by decide) ?_
        refine go_goto 9 dX5_layRow_84 (by decide) ?_
        rw [nI_1]
        simp only [nI_clamp (show i < 2 ^ 31 by omega)]
        refine ih (i + 1) (m ||| 2 ^ f) (nx f s) (pre ++ [f]) _ _ (by omega) (or_lt hm hf) (okr_nx hB hf hg hmb hok) (by rw [hgr, List.append_assoc]; rfl) (by simp [hp]) (fun j h => ?_)
        by_cases he : j = i
        · subst he
          rw [pk_us, ← hp, getD_app1]
        · rw [pk_un he, getD_app (by omega)]
          exact hr j (by omega)
set_option maxRecDepth 100000 in
theorem ev_X5_makeOnce (fel liv af goal0 len : Int32) (abv : Int64) (val : Nat → Int64) (fac stb rw_ : Nat → Int32) (g s0 gl : Nat) (hg : g ≤ 8) (hs0 : s0 ≤ 9) (hgl : gl ≤ 8) (gf br : Int32) (pf : Nat → Int32) (hG : GOK g pf) : Ev MX5_makeOnce [.ref 0, .ref 5, .ref 7] [zO 4 [.ref 1, .ref 2, .ref 3, .ref 4, .int fel, .int liv, .int af, .int goal0, .int len, .long abv, .int 0], zL 2560 val, zI 80 fac, zI 80 stb, zI 8 rw_, zO 1 [.ref 6, .int (nI g), .int gf], zI 40 pf, zO 7 [.int (nI s0), .int (nI gl), .int br]] (fun v w => v = none ∧ ∃ (val : Nat → Int64) (fac stb rw2 : Nat → Int32) (ln v0 : Nat), w = [zO 4 [.ref 1, .ref 2, .ref 3, .ref 4, .int (nI g), .int (nI (lvN pf br g)), .int (nI s0), .int (nI gl), .int (nI ln), .long (lN v0), .int 1], zL 2560 val, zI 80 fac, zI 80 stb, zI 8 rw2, zO 1 [.ref 6, .int (nI g), .int gf], zI 40 pf, zO 7 [.int (nI s0), .int (nI gl), .int br]] ∧ PlanOK g pf s0 gl br ln rw2 v0 ∧ v0 ≤ 2 ^ 32 ∧ ln ≤ 8) := by
  refine ev_of bX5_makeOnce [some (.ref 0), some (.ref 5), some (.ref 7), none] (Nat.le_of_ble_eq_true rfl) rfl ?_
  refine go_aload_n dX5_makeOnce_0 rfl ?_
  refine go_getf fX5_25 dX5_makeOnce_1 rfl rfl ?_
  refine go_if_eq 8 dX5_makeOnce_4 (by decide) (fun _ => ?_) (fun c_4 => absurd (by decide) c_4)
  refine go_aload_n dX5_makeOnce_8 rfl ?_
  refine go_bipush (8) dX5_makeOnce_9 (by decide) ?_
  refine go_aload_n dX5_makeOnce_11 rfl ?_
  refine go_getf fX5_29 dX5_makeOnce_12 rfl rfl ?_
  refine go_min dX5_makeOnce_15 lX5_35 (Nat.le_of_ble_eq_true rfl) (Nat.le_of_ble_eq_true rfl) (Nat.le_of_ble_eq_true rfl) (Nat.le_of_ble_eq_true rfl) ?_
  rw [min8g hg]
  refine go_putf fX5_41 dX5_makeOnce_18 rfl (fun _ _ _ h => by cases h; rfl) (fun _ => rfl) (fun _ => rfl) (Nat.le_of_ble_eq_true rfl) ?_
  refine go_aload_n dX5_makeOnce_21 rfl ?_
  refine go_iconst (0) dX5_makeOnce_22 (by decide) ?_
  refine go_bipush (9) dX5_makeOnce_23 (by decide) ?_
  refine go_aload_n dX5_makeOnce_25 rfl ?_
  refine go_getf fX5_44 dX5_makeOnce_26 rfl rfl ?_
  refine go_min dX5_makeOnce_29 lX5_35 (Nat.le_of_ble_eq_true rfl) (Nat.le_of_ble_eq_true rfl) (Nat.le_of_ble_eq_true rfl) (Nat.le_of_ble_eq_true rfl) ?_
  refine go_max dX5_makeOnce_32 lX5_49 (Nat.le_of_ble_eq_true rfl) (Nat.le_of_ble_eq_true rfl) (Nat.le_of_ble_eq_true rfl) (Nat.le_of_ble_eq_true rfl) ?_
  rw [cap9 hs0]
  refine go_putf fX5_52 dX5_makeOnce_35 rfl (fun _ _ _ h => by cases h; rfl) (fun _ => rfl) (fun _ => rfl) (Nat.le_of_ble_eq_true rfl) ?_
  refine go_aload_n dX5_makeOnce_38 rfl ?_
  refine go_aload_n dX5_makeOnce_39 rfl ?_
  refine go_getf fX5_55 dX5_makeOnce_40 rfl rfl ?_
  refine go_putf fX5_58 dX5_makeOnce_43 rfl (fun _ _ _ h => by cases h; rfl) (fun _ => rfl) (fun _ => rfl) (Nat.le_of_ble_eq_true rfl) ?_
  refine go_aload_n dX5_makeOnce_46 rfl ?_
  refine go_iconst (0) dX5_makeOnce_47 (by decide) ?_
  refine go_putf fX5_61 dX5_makeOnce_48 rfl (fun _ _ _ h => by cases h; rfl) (fun _ => rfl) (fun _ => rfl) (Nat.le_of_ble_eq_true rfl) ?_
  refine go_iconst (0) dX5_makeOnce_51 (by decide) ?_
  refine go_istore_n dX5_makeOnce_52 (by decide) ?_
  have hB := plan_bd hG br hs0
  have h2g : 2 ^ g ≤ 2 ^ 8 := Nat.pow_le_pow_right (by decide) hg
  have hlv := lvN_lt pf br g
  suffices loop : ∀ (d i : Nat) (fac stb : Nat → Int32), i + d = g → (∀ f s, f < i → s ≤ s0 → fac (10 * f + s) = nI (fcN pf br f s) ∧ stb (10 * f + s) = nI (nxN pf br s0 f s)) → Go X0 MX5_makeOnce (fun v w => v = none ∧ ∃ (val : Nat → Int64) (fac stb rw2 : Nat → Int32) (ln v0 : Nat), w = [zO 4 [.ref 1, .ref 2, .ref 3, .ref 4, .int (nI g), .int (nI (lvN pf br g)), .int (nI s0), .int (nI gl), .int (nI ln), .long (lN v0), .int 1], zL 2560 val, zI 80 fac, zI 80 stb, zI 8 rw2, zO 1 [.ref 6, .int (nI g), .int gf], zI 40 pf, zO 7 [.int (nI s0), .int (nI gl), .int br]] ∧ PlanOK g pf s0 gl br ln rw2 v0 ∧ v0 ≤ 2 ^ 32 ∧ ln ≤ 8) 8 0 0 53 [some (.ref 0), some (.ref 5), some (.ref 7), some (.int (nI i))] [] [zO 4 [.ref 1, .ref 2, .ref 3, .ref 4, .int (nI g), .int (nI (lvN pf br i)), .int (nI s0), .int (nI gl), .int len, .long abv, .int 0], zL 2560 val, zI 80 fac, zI 80 stb, zI 8 rw_, zO 1 [.ref 6, .int (nI g), .int gf], zI 40 pf, zO 7 [.int (nI s0), .int (nI gl), .int br]] from loop g 0 fac stb (by omega) (fun f s h => absurd h (by omega))
  intro d
  induction d with
  | zero =>
    intro i fac stb hi hT
    obtain rfl : i = g := by omega
    refine go_iload_n dX5_makeOnce_53 rfl ?_
    refine go_aload_n dX5_makeOnce_54 rfl ?_
    refine go_getf fX5_41 dX5_makeOnce_55 rfl rfl ?_
    refine go_icmp_ge 87 dX5_makeOnce_58 (by decide) (fun _ => ?_) (fun c_58 => absurd (Int32.le_refl _) c_58)
    refine go_aload_n dX5_makeOnce_87 rfl ?_
    refine go_callV (z := MX5_fillValues) [0, 1, 2, 3, 4] dX5_makeOnce_88 lX5_77 sX5_fillValues (ev_X5_fillValues _ _ _ _ _ _ _ i (lvN pf br i) s0 gl hg (by omega) hs0 hgl (fcN pf br) (nxN pf br s0) hT hB) rfl rfl rfl rfl rfl ⟨_, _, rfl⟩ (fit_of rfl) (res_of rfl) (fun v w1 h => by obtain ⟨-, val2, rfl, -⟩ := h; rfl) (fun v_88 w_88 h_88 => ?_)
    obtain ⟨rfl, val2, rfl, hV⟩ := h_88
    have hvs : val2 s0 = lN (vn val2 0 s0) := by
      have := (hV 0 (Nat.pow_pos (by decide))).2 s0 ⟨Nat.le_refl _, by omega⟩
      simpa using this
    have hv0 : vn val2 0 s0 ≤ 2 ^ 32 := Nat.le_trans ((hV 0 (Nat.pow_pos (by decide))).1 s0 ⟨Nat.le_refl _, by omega⟩).2 (pow16 (by omega))
    refine go_aload_n dX5_makeOnce_91 rfl ?_
    refine go_aload_n dX5_makeOnce_92 rfl ?_
    refine go_getf fX5_11 dX5_makeOnce_93 rfl rfl ?_
    refine go_aload_n dX5_makeOnce_96 rfl ?_
    refine go_getf fX5_52 dX5_makeOnce_97 rfl rfl ?_
    refine go_lald dX5_makeOnce_100 rfl (vp_in_nI (by omega) (by decide)) ?_
    rw [nI_clamp (show s0 < 2 ^ 31 by omega), hvs]
    refine go_putf fX5_80 dX5_makeOnce_101 rfl (fun _ _ _ h => by cases h; rfl) (fun _ => rfl) (fun _ => rfl) (Nat.le_of_ble_eq_true rfl) ?_
    refine go_aload_n dX5_makeOnce_104 rfl ?_
    refine go_iconst (0) dX5_makeOnce_105 (by decide) ?_
    refine go_putf fX5_84 dX5_makeOnce_106 rfl (fun _ _ _ h => by cases h; rfl) (fun _ => rfl) (fun _ => rfl) (Nat.le_of_ble_eq_true rfl) ?_
    refine go_aload_n dX5_makeOnce_109 rfl ?_
    refine go_getf fX5_80 dX5_makeOnce_110 rfl rfl ?_
    refine go_lconst 0 dX5_makeOnce_113 (by decide) ?_
    refine go_lcmp dX5_makeOnce_114 ?_
    by_cases hz : vn val2 0 s0 = 0
    ·
      refine go_if_le 122 dX5_makeOnce_115 (by decide) (fun _ => ?_) (fun c_115 => absurd ((lcmp_le0 (by omega)).mpr hz) c_115)
      refine go_aload_n dX5_makeOnce_122 rfl ?_
      refine go_iconst (1) dX5_makeOnce_123 (by decide) ?_
      refine go_putf fX5_25 dX5_makeOnce_124 rfl (fun _ _ _ h => by cases h; rfl) (fun _ => rfl) (fun _ => rfl) (Nat.le_of_ble_eq_true rfl) ?_
      refine go_return dX5_makeOnce_127 rfl (Nat.le_of_ble_eq_true rfl) (Nat.le_of_ble_eq_true rfl) ?_
      refine ⟨rfl, val2, fac, stb, rw_, 0, vn val2 0 s0, rfl, ⟨vn val2, fun m hm => (hV m hm).1, rfl, by rw [if_pos hz], fun j h => absurd h (by omega)⟩, hv0, by omega⟩
    ·
      refine go_if_le 122 dX5_makeOnce_115 (by decide) (fun c_115 => absurd c_115 (fun q => hz ((lcmp_le0 (by omega)).mp q))) (fun _ => ?_)
      refine go_aload_n dX5_makeOnce_118 rfl ?_
      refine go_callV (z := MX5_layRow) [0, 1, 2, 3, 4] dX5_makeOnce_119 lX5_87 sX5_layRow (ev_X5_layRow _ _ _ _ _ _ i (lvN pf br i) s0 gl hg (by omega) hs0 hgl (fcN pf br) (nxN pf br s0) hT hB (vn val2) hV) rfl rfl rfl rfl rfl ⟨_, _, rfl⟩ (fit_of rfl) (res_of rfl) (fun v w1 h => by obtain ⟨-, rw2, rfl, -⟩ := h; rfl) (fun v_119 w_119 h_119 => ?_)
      obtain ⟨rfl, rw2, rfl, hrw⟩ := h_119
      refine go_aload_n dX5_makeOnce_122 rfl ?_
      refine go_iconst (1) dX5_makeOnce_123 (by decide) ?_
      refine go_putf fX5_25 dX5_makeOnce_124 rfl (fun _ _ _ h => by cases h; rfl) (fun _ => rfl) (fun _ => rfl) (Nat.le_of_ble_eq_true rfl) ?_
      refine go_return dX5_makeOnce_127 rfl (Nat.le_of_ble_eq_true rfl) (Nat.le_of_ble_eq_true rfl) ?_
      refine ⟨rfl, val2, fac, stb, rw2, _, vn val2 0 s0, rfl, ⟨vn val2, fun m hm => (hV m hm).1, rfl, by rw [if_neg hz], hrw⟩, hv0, Nat.le_trans (grow_len _ _ _ _ _ _ _ _ _) hg⟩
  | succ d ih =>
    intro i fac stb hi hT
    refine go_iload_n dX5_makeOnce_53 rfl ?_
    refine go_aload_n dX5_makeOnce_54 rfl ?_
    refine go_getf fX5_41 dX5_makeOnce_55 rfl rfl ?_
    refine go_icmp_ge 87 dX5_makeOnce_58 (by decide) (fun c_58 => absurd c_58 (nI_ge (by omega) (by omega))) (fun _ => ?_)
    refine go_aload_n dX5_makeOnce_61 rfl ?_
    refine go_iload_n dX5_makeOnce_62 rfl ?_
    refine go_aload_n dX5_makeOnce_63 rfl ?_
    refine go_iload_n dX5_makeOnce_64 rfl ?_
    refine go_aload_n dX5_makeOnce_65 rfl ?_
    refine go_getf fX5_64 dX5_makeOnce_66 rfl rfl ?_
    refine go_callVi (z := MX2_answerOf) [5, 6] dX5_makeOnce_69 lX5_67 sX2_answerOf (ev_X2_answerOf _ _ br i (by omega) pf) rfl rfl rfl rfl rfl ⟨_, _, rfl⟩ rfl rfl ?_
    refine go_aload_n dX5_makeOnce_72 rfl ?_
    refine go_iload_n dX5_makeOnce_73 rfl ?_
    refine go_iconst (1) dX5_makeOnce_74 (by decide) ?_
    refine go_callVi (z := MX2_part) [5, 6] dX5_makeOnce_75 lX5_70 sX2_part (ev_partE (j := i) (k := 1) rfl rfl (by omega) (by decide)) rfl rfl rfl rfl rfl ⟨_, _, rfl⟩ rfl rfl ?_
    refine go_callV (z := MX5_prepare) [0, 1, 2, 3, 4] dX5_makeOnce_78 lX5_73 sX5_prepare (ev_X5_prepare _ _ _ _ _ _ _ _ _ _ (cF pf br i) _ i s0 (by omega) hs0) rfl rfl rfl rfl rfl ⟨_, _, rfl⟩ (fit_of rfl) (res_of rfl) (fun v w1 h => by obtain ⟨-, fac2, stb2, rfl, -⟩ := h; rfl) (fun v_78 w_78 h_78 => ?_)
    obtain ⟨rfl, fac2, stb2, rfl, hf1, hf2⟩ := h_78
    refine go_iincN (1) dX5_makeOnce_81 rfl (by decide) (by decide) ?_
    refine go_goto 53 dX5_makeOnce_84 (by decide) ?_
    rw [nI_1]
    have e : nI (lvN pf br i) ||| (if winI (cF pf br i) = 0 then 0 else nI (2 ^ i)) = nI (lvN pf br (i + 1)) := by
      rw [lvN]
      by_cases hw : winI (cF pf br i) = 0
      · rw [if_pos hw, if_pos hw, show (0 : Int32) = nI 0 from rfl, fa_or]
      · rw [if_neg hw, if_neg hw, fa_or]
    have k9 := ih (i + 1) fac2 stb2 (by omega) (fun f s hf hs => by
      by_cases he : f = i
      · subst he
        have h3 := hf1 s hs
        rw [h3.1, h3.2]
        exact ⟨(fc_ok hG br (by omega) (by omega)).1, (nx_ok br hs hs0).1⟩
      · rw [(hf2 (10 * f + s) (by omega)).1, (hf2 (10 * f + s) (by omega)).2]
        exact hT f s (by omega) hs)
    rw [← e] at k9
    exact k9
