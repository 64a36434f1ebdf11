/-! ORDER as the model seeks it: depth first, with a bound; in numbers alone -/
section
def vtF (g lv gl : Nat) (fc nx : Nat → Nat → Nat) : Nat → Nat → Nat → Nat
  | 0, _, _ => 0
  | k + 1, m, s => vrec g lv gl fc nx (vtF g lv gl fc nx k) m s
theorem vrec_congr {g lv gl : Nat} {fc nx v1 v2 : Nat → Nat → Nat} {m s : Nat} (h : ∀ f, f < g → m.testBit f = false → v1 (m ||| 2 ^ f) (nx f s) = v2 (m ||| 2 ^ f) (nx f s)) : vrec g lv gl fc nx v1 m s = vrec g lv gl fc nx v2 m s := by
  unfold vrec
  by_cases q : gl ≤ cnt8 (m &&& lv)
  · rw [if_pos q, if_pos q]
  · rw [if_neg q, if_neg q]
    refine mxl_congr fun f hf => ?_
    unfold hnx
    by_cases b : m.testBit f = true
    · rw [if_pos b, if_pos b]
    · rw [if_neg b, if_neg b, h f hf (by simpa using b)]
theorem vtF_st (g lv gl : Nat) (fc nx : Nat → Nat → Nat) : ∀ N k m s, k ≤ N → m < 2 ^ g → 2 ^ g ≤ m + k → vtF g lv gl fc nx k m s = vtF g lv gl fc nx (2 ^ g - m) m s
  | _, 0, m, s, _, hm, hk => absurd hk (by omega)
  | 0, k + 1, m, s, h, _, _ => absurd h (by omega)
  | N + 1, k + 1, m, s, h, hm, hk => by
    obtain ⟨j, hj⟩ : ∃ j, 2 ^ g - m = j + 1 := ⟨2 ^ g - m - 1, by omega⟩
    rw [hj]
    show vrec g lv gl fc nx (vtF g lv gl fc nx k) m s = vrec g lv gl fc nx (vtF g lv gl fc nx j) m s
    refine vrec_congr fun f hf hb => ?_
    have h1 := or_gt hb
    have h2 := or_lt hm hf
    rw [vtF_st g lv gl fc nx N k _ _ (by omega) h2 (by omega), vtF_st g lv gl fc nx N j _ _ (by omega) h2 (by omega)]
def vtB (g lv gl : Nat) (fc nx : Nat → Nat → Nat) (m s : Nat) : Nat := vtF g lv gl fc nx (2 ^ g - m) m s
theorem vtB_rec {g lv gl : Nat} {fc nx : Nat → Nat → Nat} {m s : Nat} (hm : m < 2 ^ g) : vtB g lv gl fc nx m s = vrec g lv gl fc nx (vtB g lv gl fc nx) m s := by
  unfold vtB
  obtain ⟨j, hj⟩ : ∃ j, 2 ^ g - m = j + 1 := ⟨2 ^ g - m - 1, by omega⟩
  rw [hj]
  show vrec g lv gl fc nx (vtF g lv gl fc nx j) m s = _
  refine vrec_congr fun f hf hb => ?_
  have h1 := or_gt hb
  have h2 := or_lt hm hf
  exact vtF_st g lv gl fc nx j j _ _ (Nat.le_refl _) h2 (by omega)
theorem vtB_le {g lv gl s0 : Nat} {fc nx : Nat → Nat → Nat} (hb : FBd g s0 lv fc nx) (hg : g ≤ 8) : ∀ d m s, 2 ^ g ≤ m + d → m < 2 ^ g → okr lv s0 m s → vtB g lv gl fc nx m s ≤ 16 ^ (gl - cnt8 (m &&& lv))
  | 0, m, s, hd, hm, _ => absurd hd (by omega)
  | d + 1, m, s, hd, hm, hs => by
    rw [vtB_rec hm]
    refine vrec_le hb hg hs fun f hf b => ?_
    have := or_gt b
    exact vtB_le hb hg d _ _ (by omega) (or_lt hm hf) (okr_nx hb hf hg b hs)
theorem vtB_is {g lv gl s0 : Nat} {fc nx : Nat → Nat → Nat} (hb : FBd g s0 lv fc nx) (hg : g ≤ 8) (m : Nat) (hm : m < 2 ^ g) : IsV g lv gl s0 fc nx (vtB g lv gl fc nx) m := fun s hs => ⟨vtB_rec hm, vtB_le hb hg (2 ^ g) m s (by omega) hm hs⟩
theorem mxl_ub {h : Nat → Nat} : ∀ {g f : Nat}, f < g → h f ≤ mxl h g
  | 0, f, hf => absurd hf (by omega)
  | g + 1, f, hf => by
    rw [mxl]
    by_cases e : f = g
    · subst e
      by_cases q : mxl h f < h f
      · rw [if_pos q]; exact Nat.le_refl _
      · rw [if_neg q]; omega
    · have := mxl_ub (h := h) (show f < g by omega)
      by_cases q : mxl h g < h g
      · rw [if_pos q]; omega
      · rw [if_neg q]; exact this
theorem mxl_at {h : Nat → Nat} : ∀ {g : Nat}, 0 < mxl h g → ∃ f, f < g ∧ h f = mxl h g
  | 0, q => absurd q (by simp [mxl])
  | g + 1, q => by
    rw [mxl] at q ⊢
    by_cases e : mxl h g < h g
    · rw [if_pos e]; exact ⟨g, by omega, rfl⟩
    · rw [if_neg e] at q ⊢
      obtain ⟨f, h1, h2⟩ := mxl_at q
      exact ⟨f, by omega, h2⟩
theorem lst_ex {p : Nat → Bool} : ∀ {d i f : Nat}, i ≤ f → f < i + d → p f = true → ∃ k, lst p d i = some k
  | 0, i, f, h1, h2, _ => absurd h2 (by omega)
  | d + 1, i, f, h1, h2, h3 => by
    rw [lst]
    by_cases q : p i = true
    · exact ⟨i, if_pos q⟩
    · rw [if_neg q]
      have : i ≠ f := fun e => q (e ▸ h3)
      exact lst_ex (by omega) (by omega) h3
/-- what one felon more may bring -/
def vOf (fc nx vt : Nat → Nat → Nat) (m s f : Nat) : Nat := fc f s * vt (m ||| 2 ^ f) (nx f s)
def apF (g lv gl : Nat) (fc nx vt : Nat → Nat → Nat) (sc e m s P : Nat) (path : List Nat) (f : Nat) (b : Nat × List Nat) : Nat × List Nat :=
  if m.testBit f = true then b else if P * vOf fc nx vt m s f * sc ≤ b.1 then b else (P * vOf fc nx vt m s f * sc, path ++ f :: grow g lv gl fc nx vt e (m ||| 2 ^ f) (nx f s))
def foF (g lv gl : Nat) (fc nx vt : Nat → Nat → Nat) (sc e m s P : Nat) (path : List Nat) : Nat → Nat → Nat × List Nat → Nat × List Nat
  | 0, _, b => b
  | d + 1, j, b => foF g lv gl fc nx vt sc e m s P path d (j + 1) (apF g lv gl fc nx vt sc e m s P path j b)
theorem fo_keep {g lv gl : Nat} {fc nx vt : Nat → Nat → Nat} {sc e m s P : Nat} {path : List Nat} : ∀ {d j : Nat} {b : Nat × List Nat}, (∀ f, j ≤ f → f < j + d → m.testBit f = false → vOf fc nx vt m s f ≤ vt m s) → P * vt m s * sc ≤ b.1 → foF g lv gl fc nx vt sc e m s P path d j b = b
  | 0, j, b, _, _ => rfl
  | d + 1, j, b, h, hb => by
    have hj : apF g lv gl fc nx vt sc e m s P path j b = b := by
      unfold apF
      by_cases q : m.testBit j = true
      · rw [if_pos q]
      · rw [if_neg q]
        have h1 := h j (Nat.le_refl _) (by omega) (by simpa using q)
        rw [if_pos (Nat.le_trans (Nat.mul_le_mul_right sc (Nat.mul_le_mul_left P h1)) hb)]
    rw [foF, hj]
    exact fo_keep (fun f h1 h2 => h f (by omega) (by omega)) hb
theorem fo_find {g lv gl : Nat} {fc nx vt : Nat → Nat → Nat} {sc e m s P : Nat} {path : List Nat} {k : Nat} : ∀ {d j : Nat} {b : Nat × List Nat}, (∀ f, j ≤ f → f < j + d → m.testBit f = false → vOf fc nx vt m s f ≤ vt m s) → b.1 < P * vt m s * sc → lst (pnx fc nx vt m s) d j = some k → foF g lv gl fc nx vt sc e m s P path d j b = (P * vt m s * sc, path ++ k :: grow g lv gl fc nx vt e (m ||| 2 ^ k) (nx k s))
  | 0, j, b, _, _, hl => by simp [lst] at hl
  | d + 1, j, b, h, hb, hl => by
    rw [lst] at hl
    rw [foF]
    have hpos : 0 < P * vt m s * sc := by omega
    have hsc : 0 < sc := Nat.pos_of_ne_zero fun q => by rw [q] at hpos; omega
    have hP : 0 < P := Nat.pos_of_ne_zero fun q => by rw [q, Nat.zero_mul, Nat.zero_mul] at hpos; omega
    by_cases q : m.testBit j = true
    · have hp : ¬ pnx fc nx vt m s j = true := by unfold pnx; rw [q]; simp
      rw [if_neg hp] at hl
      rw [show apF g lv gl fc nx vt sc e m s P path j b = b by unfold apF; rw [if_pos q]]
      exact fo_find (fun f h1 h2 => h f (by omega) (by omega)) hb hl
    · have q2 : m.testBit j = false := by simpa using q
      have hv := h j (Nat.le_refl _) (by omega) q2
      by_cases ev : vOf fc nx vt m s j = vt m s
      · have hp : pnx fc nx vt m s j = true := by
          unfold pnx
          rw [q2]
          simp only [Bool.not_false, Bool.true_and, decide_eq_true_eq]
          exact ev
        rw [if_pos hp] at hl
        have hjk : j = k := Option.some.inj hl
        rw [← hjk]
        have ea : apF g lv gl fc nx vt sc e m s P path j b = (P * vt m s * sc, path ++ j :: grow g lv gl fc nx vt e (m ||| 2 ^ j) (nx j s)) := by
          unfold apF
          rw [if_neg q, ev, if_neg (by omega)]
        rw [ea]
        exact fo_keep (fun f h1 h2 => h f (by omega) (by omega)) (Nat.le_refl _)
      · have hp : ¬ pnx fc nx vt m s j = true := by
          unfold pnx
          rw [q2]
          simp only [Bool.not_false, Bool.true_and, decide_eq_true_eq]
          exact ev
        rw [if_neg hp] at hl
        have hlt : P * vOf fc nx vt m s j * sc < P * vt m s * sc := Nat.mul_lt_mul_of_pos_right (Nat.mul_lt_mul_of_pos_left (by omega) hP) hsc
        refine fo_find (fun f h1 h2 => h f (by omega) (by omega)) ?_ hl
        unfold apF
        rw [if_neg q]
        by_cases z : P * vOf fc nx vt m s j * sc ≤ b.1
        · rw [if_pos z]; exact hb
        · rw [if_neg z]; exact hlt
/-- the whole seeking below a row -/
theorem fo_all {g lv gl s0 : Nat} {fc nx vt : Nat → Nat → Nat} {sc e m s P : Nat} {path : List Nat} {b : Nat × List Nat} (hv : IsV g lv gl s0 fc nx vt m) (hs : okr lv s0 m s) (hw : cnt8 (m &&& lv) < gl) : foF g lv gl fc nx vt sc e m s P path g 0 b = if P * vt m s * sc ≤ b.1 then b else (P * vt m s * sc, path ++ grow g lv gl fc nx vt (e + 1) m s) := by
  have hr := (hv s hs).1
  unfold vrec at hr
  rw [if_neg (by omega)] at hr
  have hu : ∀ f, 0 ≤ f → f < 0 + g → m.testBit f = false → vOf fc nx vt m s f ≤ vt m s := fun f _ hf hb => by
    have := mxl_ub (h := hnx fc nx vt m s) (show f < g by omega)
    rw [← hr] at this
    unfold hnx at this
    rw [hb] at this
    simpa [vOf] using this
  by_cases q : P * vt m s * sc ≤ b.1
  · rw [if_pos q]
    exact fo_keep hu q
  · rw [if_neg q]
    have hpos : 0 < vt m s := Nat.pos_of_ne_zero fun z => q (by rw [z, Nat.mul_zero, Nat.zero_mul]; exact Nat.zero_le _)
    obtain ⟨f, hf, ef⟩ := mxl_at (h := hnx fc nx vt m s) (g := g) (by omega)
    rw [← hr] at ef
    have hp : pnx fc nx vt m s f = true := by
      unfold hnx at ef
      unfold pnx
      cases hb : m.testBit f with
      | true => rw [hb, if_pos rfl] at ef; omega
      | false =>
        rw [hb] at ef
        simp only [Bool.false_eq_true, if_false] at ef
        simp only [Bool.not_false, Bool.true_and, decide_eq_true_eq]
        exact ef
    obtain ⟨k, hk⟩ := lst_ex (d := g) (i := 0) (Nat.zero_le f) (by omega) hp
    rw [fo_find hu (by omega) hk, grow, if_neg (by omega), hk]
theorem grow_nil {g lv gl : Nat} {fc nx vt : Nat → Nat → Nat} {m s : Nat} (h : gl ≤ cnt8 (m &&& lv)) : ∀ e, grow g lv gl fc nx vt e m s = []
  | 0 => rfl
  | e + 1 => by rw [grow, if_pos h]
theorem cnt8_lt {g m : Nat} (hm : m < 2 ^ g) : cnt8 m ≤ g := by
  have h : ∀ k, k < g ∨ b2n (m.testBit k) = 0 := fun k => by
    by_cases q : k < g
    · exact Or.inl q
    · refine Or.inr ?_
      rw [Nat.testBit_lt_two_pow (Nat.lt_of_lt_of_le hm (Nat.pow_le_pow_right (by decide) (Nat.le_of_not_lt q)))]
      rfl
  have hb : ∀ b, b2n b ≤ 1 := by decide
  have a0 := h 0; have a1 := h 1; have a2 := h 2; have a3 := h 3; have a4 := h 4; have a5 := h 5; have a6 := h 6; have a7 := h 7
  have c0 := hb (m.testBit 0); have c1 := hb (m.testBit 1); have c2 := hb (m.testBit 2); have c3 := hb (m.testBit 3)
  have c4 := hb (m.testBit 4); have c5 := hb (m.testBit 5); have c6 := hb (m.testBit 6); have c7 := hb (m.testBit 7)
  unfold cnt8
  omega
theorem full_bits {g m f : Nat} (hg : g ≤ 8) (hm : m < 2 ^ g) (hc : cnt8 m = g) (hf : f < g) : m.testBit f = true := by
  cases q : m.testBit f with
  | true => rfl
  | false =>
    have h1 := cnt8_lt (or_lt hm hf)
    have h2 := cnt8_or (m := m) (lv := 255) (by omega) q
    have h256 : (2 : Nat) ^ g ≤ 2 ^ 8 := Nat.pow_le_pow_right (by decide) hg
    have e : ∀ x, x < 2 ^ 8 → x &&& 255 = x := fun x hx => by rw [show (255 : Nat) = 2 ^ 8 - 1 from rfl, Nat.and_two_pow_sub_one_eq_mod, Nat.mod_eq_of_lt hx]
    have h3 := or_lt hm hf
    rw [e _ (by omega), e _ (by omega)] at h2
    have h4 : (255 : Nat).testBit f = true := by
      have : ∀ f, f < 8 → (255 : Nat).testBit f = true := by decide
      exact this f (by omega)
    rw [h4] at h2
    have : b2n true = 1 := rfl
    omega
theorem vt_full {g lv gl s0 : Nat} {fc nx vt : Nat → Nat → Nat} {m s : Nat} (hv : IsV g lv gl s0 fc nx vt m) (hs : okr lv s0 m s) (hw : cnt8 (m &&& lv) < gl) (hg : g ≤ 8) (hm : m < 2 ^ g) (hc : cnt8 m = g) : vt m s = 0 := by
  have hr := (hv s hs).1
  unfold vrec at hr
  rw [if_neg (by omega)] at hr
  rw [hr]
  have h256 : (2 : Nat) ^ g ≤ 2 ^ 8 := Nat.pow_le_pow_right (by decide) hg
  refine Nat.le_zero.mp (mxl_le fun f hf => ?_)
  unfold hnx
  rw [if_pos (full_bits hg hm hc hf)]
  exact Nat.le_refl _
theorem clr_bit : ∀ k, k < 8 → ∀ m, m < 256 → m.testBit k = false → nI (m ||| 2 ^ k) &&& ((1 : Int32) <<< (nI k &&& 31) ^^^ -1) = nI m := by decide +kernel
theorem set_bit : ∀ k, k < 8 → ∀ m, m < 256 → nI m ||| (1 : Int32) <<< (nI k &&& 31) = nI (m ||| 2 ^ k) := by decide +kernel
end
