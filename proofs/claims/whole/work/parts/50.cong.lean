/-! only the valid places of a gang's parts and of the names matter -/
section Cg
variable {g h : Nat} {pf qf : Nat → Int32} {nm om : Nat → Nat} (hp : ∀ j, j < 5 * g → pf j = qf j) (hn : ∀ i, i < h → nm i = om i)
theorem nmd_cg (hn : ∀ i, i < h → nm i = om i) (f : Nat) : ∀ i, i ≤ h → nmd nm i f = nmd om i f
  | 0, _ => rfl
  | i + 1, hi => by rw [nmd, nmd, nmd_cg hn f i (by omega), hn i (by omega)]
theorem cmv_cg (hp : ∀ j, j < 5 * g → pf j = qf j) (hn : ∀ i, i < h → nm i = om i) (goal br k : Int32) (i : Nat) (hi : i < h) : cmv g pf nm goal br k i = cmv g qf om goal br k i := by
  unfold cmv
  rw [hn i hi, nmd_cg hn _ i (by omega)]
  by_cases q : goal ≤ k ∨ g ≤ om i ∨ nmd om i (om i) = true
  · rw [if_pos q, if_pos q]
  · rw [if_neg q, if_neg q]
    have hg : om i < g := Nat.lt_of_not_le fun z => q (Or.inr (Or.inl z))
    rw [hp _ (by omega), hp _ (by omega), hp _ (by omega)]
theorem wst_cg (hp : ∀ j, j < 5 * g → pf j = qf j) (hn : ∀ i, i < h → nm i = om i) (s0 goal br : Int32) : ∀ i, i ≤ h → wst g pf nm s0 goal br i = wst g qf om s0 goal br i
  | 0, _ => rfl
  | i + 1, hi => by rw [wst, wst, wst_cg hp hn s0 goal br i (by omega), cmv_cg hp hn _ _ _ i (by omega)]
theorem wC_cg (hp : ∀ j, j < 5 * g → pf j = qf j) (hn : ∀ i, i < h → nm i = om i) (s0 goal br : Int32) (i : Nat) (hi : i < h) : wC g pf nm s0 goal br i = wC g qf om s0 goal br i := by
  unfold wC
  rw [wst_cg hp hn s0 goal br i (by omega), cmv_cg hp hn _ _ _ i hi]
theorem wC_lt {s0 goal br : Int32} {i : Nat} (q : ¬ wC g pf nm s0 goal br i = 0) : nm i < g := by
  refine Nat.lt_of_not_le fun z => q ?_
  unfold wC cmv
  exact if_pos (Or.inr (Or.inl z))
theorem wX_cg (hp : ∀ j, j < 5 * g → pf j = qf j) (hn : ∀ i, i < h → nm i = om i) (s0 goal br : Int32) (i : Nat) (hi : i < h) : wX g pf nm s0 goal br i = wX g qf om s0 goal br i := by
  unfold wX
  rw [wst_cg hp hn s0 goal br i (by omega), ← wC_cg hp hn s0 goal br i hi]
  by_cases q : wC g pf nm s0 goal br i = 3
  · have hg : nm i < g := wC_lt (by rw [q]; decide)
    rw [← hn i hi, hp _ (by omega)]
  · rw [six_n q, six_n q]
theorem harm_cg (hp : ∀ j, j < 5 * g → pf j = qf j) (hn : ∀ i, i < h → nm i = om i) (s0 goal br : Int32) (i : Nat) (hi : i < h) : (wC g pf nm s0 goal br i = 3 ∧ pf (5 * nm i + 3) = 0) ↔ (wC g qf om s0 goal br i = 3 ∧ qf (5 * om i + 3) = 0) := by
  rw [← wC_cg hp hn s0 goal br i hi]
  by_cases q : wC g pf nm s0 goal br i = 3
  · have hg : nm i < g := wC_lt (by rw [q]; decide)
    rw [← hn i hi, hp _ (by omega)]
  · exact ⟨fun z => absurd z.1 q, fun z => absurd z.1 q⟩
theorem wA_cg (hp : ∀ j, j < 5 * g → pf j = qf j) (hn : ∀ i, i < h → nm i = om i) (s0 goal br : Int32) : ∀ i, i ≤ h → wA g pf nm s0 goal br i = wA g qf om s0 goal br i
  | 0, _ => rfl
  | i + 1, hi => by rw [wA, wA, wA_cg hp hn s0 goal br i (by omega), wC_cg hp hn s0 goal br i (by omega), wX_cg hp hn s0 goal br i (by omega)]
theorem wN_cg (hp : ∀ j, j < 5 * g → pf j = qf j) (hn : ∀ i, i < h → nm i = om i) (s0 goal br : Int32) : ∀ i, i ≤ h → wN g pf nm s0 goal br i = wN g qf om s0 goal br i
  | 0, _ => rfl
  | i + 1, hi => by
    have e := harm_cg hp hn s0 goal br i (by omega)
    rw [wN, wN, wN_cg hp hn s0 goal br i (by omega)]
    by_cases q : wC g pf nm s0 goal br i = 3 ∧ pf (5 * nm i + 3) = 0
    · rw [if_pos q, if_pos (e.mp q)]
    · rw [if_neg q, if_neg (fun z => q (e.mpr z))]
theorem kW_cg (hp : ∀ j, j < 5 * g → pf j = qf j) (hn : ∀ i, i < h → nm i = om i) (s0 goal br : Int32) (i : Nat) (hi : i ≤ h) : kW g pf nm s0 goal br i = kW g qf om s0 goal br i := by
  unfold kW
  rw [wst_cg hp hn s0 goal br i hi]
theorem aW_cg (hp : ∀ j, j < 5 * g → pf j = qf j) (hn : ∀ i, i < h → nm i = om i) (s0 goal br : Int32) : ∀ i, i ≤ h → aW g pf nm s0 goal br i = aW g qf om s0 goal br i
  | 0, _ => rfl
  | i + 1, hi => by rw [aW, aW, aW_cg hp hn s0 goal br i (by omega), wC_cg hp hn s0 goal br i (by omega), wX_cg hp hn s0 goal br i (by omega)]
theorem hW_cg (hp : ∀ j, j < 5 * g → pf j = qf j) (hn : ∀ i, i < h → nm i = om i) (s0 goal br : Int32) : ∀ i, i ≤ h → hW g pf nm s0 goal br i = hW g qf om s0 goal br i
  | 0, _ => rfl
  | i + 1, hi => by
    have e := harm_cg hp hn s0 goal br i (by omega)
    rw [hW, hW, hW_cg hp hn s0 goal br i (by omega), aW_cg hp hn s0 goal br (i + 1) hi, kW_cg hp hn s0 goal br (i + 1) hi]
    by_cases q : wC g pf nm s0 goal br i = 3 ∧ pf (5 * nm i + 3) = 0
    · rw [if_pos q, if_pos (e.mp q)]
    · rw [if_neg q, if_neg (fun z => q (e.mpr z))]
theorem wF_cg (hp : ∀ j, j < 5 * g → pf j = qf j) (hn : ∀ i, i < h → nm i = om i) (s0 goal br : Int32) (f : Nat) : ∀ i, i ≤ h → wF g pf nm s0 goal br i f = wF g qf om s0 goal br i f
  | 0, _ => rfl
  | i + 1, hi => by rw [wF, wF, wF_cg hp hn s0 goal br f i (by omega), nmd_cg hn f i (by omega), hn i (by omega), wC_cg hp hn s0 goal br i (by omega)]
theorem lvI_cg (hp : ∀ j, j < 5 * g → pf j = qf j) (hn : ∀ i, i < h → nm i = om i) (s0 goal br : Int32) : lvI g pf nm s0 goal br h = lvI g qf om s0 goal br h := by
  unfold lvI
  rw [wst_cg hp hn s0 goal br h (Nat.le_refl _), wA_cg hp hn s0 goal br h (Nat.le_refl _)]
theorem lvW_cg (hp : ∀ j, j < 5 * g → pf j = qf j) (hn : ∀ i, i < h → nm i = om i) (s0 br : Int32) (gl : Nat) : lvW g pf nm s0 gl br h = lvW g qf om s0 gl br h := by
  unfold lvW
  rw [kW_cg hp hn s0 (nI gl) br h (Nat.le_refl _), aW_cg hp hn s0 (nI gl) br h (Nat.le_refl _)]
end Cg
def SEq (S S2 : TS) : Prop := S.1 = S2.1 ∧ ∀ k, k < S.1 → S.2.1 k = S2.2.1 k ∧ S.2.2 k = S2.2.2 k
theorem okD_cg {ft ft2 a b a2 b2 : Nat → Int32} (h : ∀ f, ft f = ft2 f) : ∀ d i, (∀ k, i ≤ k → k < i + d → a k = a2 k ∧ b k = b2 k) → okD ft a b d i = okD ft2 a2 b2 d i
  | 0, i, _ => rfl
  | d + 1, i, e => by
    obtain ⟨e1, e2⟩ := e i (Nat.le_refl _) (by omega)
    rw [okD, okD, e1, e2, okD_cg h d (i + 1) (fun k h1 h2 => e k (by omega) (by omega)), show ft = ft2 from funext h]
theorem seen_cg {g h : Nat} {pf qf : Nat → Int32} {nm om : Nat → Nat} {S S2 : TS} (hp : ∀ j, j < 5 * g → pf j = qf j) (hn : ∀ i, i < h → nm i = om i) (hS : SEq S S2) (s0 goal br : Int32) : seenB g pf nm s0 goal br h S = seenB g qf om s0 goal br h S2 := by
  unfold seenB
  rw [← hS.1]
  exact okD_cg (fun f => wF_cg hp hn s0 goal br f h (Nat.le_refl _)) S.1 0 (fun k _ hk => hS.2 k (by omega))
theorem upd_cg {g f : Nat} {pf qf : Nat → Int32} (hp : ∀ j, j < 5 * g → pf j = qf j) (x : Int32) : ∀ j, j < 5 * g → upd pf f x j = upd qf f x j := fun j hj => by
  by_cases e : j = f
  · subst e; rw [pk_us, pk_us]
  · rw [pk_un e, pk_un e, hp j hj]
theorem brb_cg {p q : Nat → Bool} : ∀ {n : Nat}, (∀ v, v < n → p v = q v) → brbN p n = brbN q n
  | 0, _ => rfl
  | n + 1, h => by rw [brbN, brbN, brb_cg (fun v hv => h v (by omega)), h n (by omega)]
theorem prc_cg {p q : Nat → Int64} : ∀ {n : Nat}, (∀ v, v < n → p v = q v) → prcI p n = prcI q n
  | 0, _ => rfl
  | n + 1, h => by rw [prcI, prcI, prc_cg (fun v hv => h v (by omega)), h n (by omega)]
theorem tl_cg {p q : Nat → Bool} {F F2 : Nat → Nat → Int32} {f e : Nat} : ∀ {n : Nat}, (∀ v, v < n → p v = q v ∧ F v f = F2 v f) → tlC p F f e n = tlC q F2 f e n
  | 0, _ => rfl
  | n + 1, h => by rw [tlC, tlC, tl_cg (fun v hv => h v (by omega)), (h n (by omega)).1, (h n (by omega)).2]
theorem ask_cg {p q : Nat → Int32} : ∀ {n : Nat}, (∀ v, v < n → p v = q v) → askI p n = askI q n
  | 0, _ => rfl
  | n + 1, h => by rw [askI, askI, ask_cg (fun v hv => h v (by omega)), h n (by omega)]
theorem chn_cg {g : Nat} {pf qf : Nat → Int32} (hg : g ≤ 8) (hp : ∀ j, j < 5 * g → pf j = qf j) : ∀ d r a, chnN g pf d r a = chnN g qf d r a
  | 0, r, a => rfl
  | d + 1, r, a => by
    rw [chnN, chnN]
    by_cases q : a < 0 ∨ nI g ≤ a
    · rw [if_pos q, if_pos q]
    · rw [if_neg q, if_neg q]
      have ha := (in_range (fun z => q (Or.inl z)) (fun z => q (Or.inr z)) (show g < 2 ^ 31 by omega)).2
      rw [hp _ (by omega), hp _ (by omega), chn_cg hg hp d]
theorem dgN_cg {a b : Nat → List Int64} {h : Int64} : ∀ {n : Nat}, (∀ i, i < n → a i = b i) → dgN a h n = dgN b h n
  | 0, _ => rfl
  | n + 1, e => by rw [dgN, dgN, dgN_cg (fun i hi => e i (by omega)), e n (by omega)]
/-! plans -/
theorem cF_cg {g f : Nat} {pf qf : Nat → Int32} (hp : ∀ j, j < 5 * g → pf j = qf j) (br : Int32) (hf : f < g) : cF pf br f = cF qf br f := by
  unfold cF
  rw [hp _ (by omega), hp _ (by omega), hp _ (by omega)]
theorem fcN_cg {g f : Nat} {pf qf : Nat → Int32} (hp : ∀ j, j < 5 * g → pf j = qf j) (br : Int32) (hf : f < g) (s : Nat) : fcN pf br f s = fcN qf br f s := by
  unfold fcN
  rw [cF_cg hp br hf, hp _ (by omega)]
theorem nxN_cg {g f : Nat} {pf qf : Nat → Int32} (hp : ∀ j, j < 5 * g → pf j = qf j) (br : Int32) (s0 : Nat) (hf : f < g) (s : Nat) : nxN pf br s0 f s = nxN qf br s0 f s := by
  unfold nxN
  rw [cF_cg hp br hf]
theorem lvN_cg {g : Nat} {pf qf : Nat → Int32} (hp : ∀ j, j < 5 * g → pf j = qf j) (br : Int32) : ∀ k, k ≤ g → lvN pf br k = lvN qf br k
  | 0, _ => rfl
  | k + 1, hk => by rw [lvN, lvN, lvN_cg hp br k (by omega), cF_cg hp br (show k < g by omega)]
theorem hnx_cg {g : Nat} {f1 f2 n1 n2 vt : Nat → Nat → Nat} (hf : ∀ f s, f < g → f1 f s = f2 f s) (hx : ∀ f s, f < g → n1 f s = n2 f s) {m s f : Nat} (h : f < g) : hnx f1 n1 vt m s f = hnx f2 n2 vt m s f := by
  unfold hnx
  rw [hf f s h, hx f s h]
theorem grow_cg {g lv gl : Nat} {f1 f2 n1 n2 vt : Nat → Nat → Nat} (hf : ∀ f s, f < g → f1 f s = f2 f s) (hx : ∀ f s, f < g → n1 f s = n2 f s) : ∀ d m s, grow g lv gl f1 n1 vt d m s = grow g lv gl f2 n2 vt d m s
  | 0, m, s => rfl
  | d + 1, m, s => by
    rw [grow, grow]
    have e : lst (pnx f1 n1 vt m s) g 0 = lst (pnx f2 n2 vt m s) g 0 := lst_congr fun f _ h => by
      unfold pnx
      rw [hf f s (by omega), hx f s (by omega)]
    rw [e]
    by_cases q : gl ≤ cnt8 (m &&& lv)
    · rw [if_pos q, if_pos q]
    · rw [if_neg q, if_neg q]
      cases r : lst (pnx f2 n2 vt m s) g 0 with
      | none => rfl
      | some f =>
        have h3 := (lst_some r).2.2
        show f :: _ = f :: _
        rw [hx f s (by omega), grow_cg hf hx d]
theorem plan_cg {g : Nat} {pf qf : Nat → Int32} {s0 gl : Nat} {br : Int32} {ln v0 : Nat} {row : Nat → Int32} (hp : ∀ j, j < 5 * g → pf j = qf j) (h : PlanOK g pf s0 gl br ln row v0) : PlanOK g qf s0 gl br ln row v0 := by
  obtain ⟨vt, h1, h2, h3, h4⟩ := h
  have el := lvN_cg hp br g (Nat.le_refl _)
  have ef : ∀ f s, f < g → fcN pf br f s = fcN qf br f s := fun f s hf => fcN_cg hp br hf s
  have ex : ∀ f s, f < g → nxN pf br s0 f s = nxN qf br s0 f s := fun f s hf => nxN_cg hp br s0 hf s
  have eg := grow_cg (lv := lvN pf br g) (gl := gl) (vt := vt) ef ex g 0 s0
  refine ⟨vt, fun m hm s hs => ?_, h2, ?_, fun j hj => ?_⟩
  · rw [← el] at hs
    obtain ⟨a1, a2⟩ := h1 m hm s hs
    rw [← el]
    refine ⟨a1.trans ?_, a2⟩
    unfold vrec
    rw [mxl_congr (fun f hf => hnx_cg ef ex hf)]
  · rw [← el, ← eg]; exact h3
  · rw [← el, ← eg]; exact h4 j hj
/-! two gangs, two rows of names, alike at their valid places -/
def GEq (G G2 : TG) : Prop := G.1 = G2.1 ∧ G.2.1 = G2.2.1 ∧ ∀ j, j < 5 * G.1 → G.2.2 j = G2.2.2 j
def NEq (N N2 : TG) : Prop := N.1 = N2.1 ∧ N.2.1 = N2.2.1 ∧ ∀ i, i < N.1 → N.2.2 i = N2.2.2 i
def TEq (t t2 : TX) : Prop := t.1 = t2.1 ∧ ∀ i, i < t.1 → t.2 i = t2.2 i
theorem bad_cg {a b : Nat → Int32} : ∀ {d i : Nat}, (∀ j, i ≤ j → j < i + d → a j = b j) → bad a d i = bad b d i
  | 0, i, _ => rfl
  | d + 1, i, h => by rw [bad, bad, h i (Nat.le_refl _) (by omega), bad_cg (fun j h1 h2 => h j (by omega) (by omega))]
theorem badN_cg {a b : Nat → Int32} : ∀ {d i : Nat}, (∀ j, i ≤ j → j < i + d → a j = b j) → badN a d i = badN b d i
  | 0, i, _ => rfl
  | d + 1, i, h => by rw [badN, badN, h i (Nat.le_refl _) (by omega), badN_cg (fun j h1 h2 => h j (by omega) (by omega))]
theorem flt_cg {n : Nat} {a b : Nat → Int32} (h : ∀ i, i < n → a i = b i) : fltI n a = fltI n b ∧ gsz n a = gsz n b := by
  have e : fltI n a = fltI n b := by
    unfold fltI
    rw [bad_cg (fun j _ hj => h j (by omega))]
  refine ⟨e, ?_⟩
  unfold gsz
  rw [e]
theorem nfl_cg {n : Nat} {a b : Nat → Int32} (h : ∀ i, i < n → a i = b i) : nfl n a = nfl n b ∧ nsz n a = nsz n b := by
  unfold nfl nsz
  rw [badN_cg (fun j _ hj => h j (by omega))]
  exact ⟨rfl, rfl⟩
theorem GEq_of {t t2 : TX} {G G2 : TG} (ht : TEq t t2) (h : GInv t G) (h2 : GInv t2 G2) : GEq G G2 := by
  obtain ⟨a1, a2, a3⟩ := h
  obtain ⟨b1, b2, b3⟩ := h2
  have e := flt_cg ht.2
  rw [← ht.1] at b1 b2
  have e1 : G.1 = G2.1 := by rw [a1, b1, e.2]
  refine ⟨e1, by rw [a2, b2, e.1], fun j hj => ?_⟩
  have hj5 := Nat.div_add_mod j 5
  have hm := Nat.mod_lt j (show 0 < 5 by decide)
  have hq : j / 5 < G.1 := by omega
  have hin := gsz_in (n := t.1) (b := t.2) (i := j / 5) (by omega)
  have x1 := a3 (j / 5) (j % 5) hq hm
  have x2 := b3 (j / 5) (j % 5) (by omega) hm
  rw [hj5] at x1 x2
  rw [x1, x2, ht.2 _ (by omega)]
theorem NEq_of {t t2 : TX} {N N2 : TG} (ht : TEq t t2) (h : NInv t N) (h2 : NInv t2 N2) : NEq N N2 := by
  obtain ⟨a1, a2, a3⟩ := h
  obtain ⟨b1, b2, b3⟩ := h2
  have e := nfl_cg ht.2
  rw [← ht.1] at b1 b2
  have e1 : N.1 = N2.1 := by rw [a1, b1, e.2]
  refine ⟨e1, by rw [a2, b2, e.1], fun i hi => ?_⟩
  have hle := nsz_le t.1 t.2
  rw [a3 i hi, b3 i (by omega), ht.2 i (by omega)]
theorem NEq.nm {N N2 : TG} (h : NEq N N2) : ∀ i, i < N.1 → nmR N.2.2 i = nmR N2.2.2 i := fun i hi => by
  unfold nmR
  rw [h.2.2 i hi]
/-- the digest tells only of valid places -/
theorem dgst_cg {t0 t1 u0 u1 : TX} {G N G2 N2 : TG} {T : TT} {S S2 : TS} {lf : Int32} {ln v0 l2 w0 : Nat} {row ro2 : Nat → Int32} (h0 : t0.1 = u0.1) (h1 : t1.1 = u1.1) (hG : GEq G G2) (hN : NEq N N2) (hS : SEq S S2) (hg : G.1 ≤ 8) (e1 : ordI (-1) ln row = ordI (-1) l2 ro2) (e2 : ordI 0 ln row = ordI 0 l2 ro2) (e3 : v0 = w0) : dgst t0 t1 G N T S lf ln v0 row = dgst u0 u1 G2 N2 T S2 lf l2 w0 ro2 := by
  obtain ⟨G1, G21, G22⟩ := G
  obtain ⟨H1, H21, H22⟩ := G2
  obtain ⟨N1, N21, N22⟩ := N
  obtain ⟨O1, O21, O22⟩ := N2
  obtain ⟨rfl, rfl, hp⟩ := hG
  have hnn := hN.nm
  obtain ⟨rfl, rfl, hn⟩ := hN
  dsimp only at hp hn hnn hg
  subst e3
  have cn : ∀ j, cntV t0 t1 (G1, G21, G22) (N1, N21, N22) (cC (G1, G21, G22) (N1, N21, N22) T) S lf j = cntV u0 u1 (G1, G21, H22) (N1, N21, O22) (cC (G1, G21, H22) (N1, N21, O22) T) S2 lf j := fun j => by
    unfold cntV cC
    dsimp only
    rw [fg_congr (fun i hi => wC_cg hp hnn (nI T.1) (nI T.2.1) (nI T.2.2) i hi), nv_congr (fun f _ => wF_cg hp hnn (nI T.1) (nI T.2.1) (nI T.2.2) f N1 (Nat.le_refl _)), wst_cg hp hnn (nI T.1) (nI T.2.1) (nI T.2.2) N1 (Nat.le_refl _), h0, h1, hS.1]
  have fl : ∀ f, f < G1 → aFel (G1, G21, G22) (N1, N21, N22) T S f = aFel (G1, G21, H22) (N1, N21, O22) T S2 f := fun f hf => by
    unfold aFel cC
    dsimp only
    rw [hp _ (by omega), hp _ (by omega), hp _ (by omega), hp _ (by omega), hp _ (by omega), wF_cg hp hnn (nI T.1) (nI T.2.1) (nI T.2.2) f N1 (Nat.le_refl _), chn_cg hg hp, brb_cg (fun v _ => seen_cg (upd_cg hp (nI v)) hnn hS (nI T.1) (nI T.2.1) (nI T.2.2))]
  have na : ∀ i, i < N1 → aNam (G1, G21, G22) (N1, N21, N22) T i = aNam (G1, G21, H22) (N1, N21, O22) T i := fun i hi => by
    unfold aNam cC
    dsimp only
    rw [hn i hi, wC_cg hp hnn (nI T.1) (nI T.2.1) (nI T.2.2) i hi, wX_cg hp hnn (nI T.1) (nI T.2.1) (nI T.2.2) i hi]
  have be : ∀ i, i < N1 + 1 → aBeh (G1, G21, G22) (N1, N21, N22) T i = aBeh (G1, G21, H22) (N1, N21, O22) T i := fun i hi => by
    unfold aBeh cC aC kC
    dsimp only
    rw [wst_cg hp hnn (nI T.1) (nI T.2.1) (nI T.2.2) i (by omega), aW_cg hp hnn (nI T.1) (nI T.2.1) (nI T.2.2) i (by omega), kW_cg hp hnn (nI T.1) (nI T.2.1) (nI T.2.2) i (by omega)]
  have pl : aPl (G1, G21, G22) (N1, N21, N22) T ln v0 row = aPl (G1, G21, H22) (N1, N21, O22) T l2 v0 ro2 := by
    unfold aPl cC lC harmC
    dsimp only
    rw [lvW_cg hp hnn (nI T.1) (nI T.2.2) T.2.1, hW_cg hp hnn (nI T.1) (nI T.2.1) (nI T.2.2) N1 (Nat.le_refl _), fw_congr (fun i hi => wX_cg hp hnn (nI T.1) (nI T.2.1) (nI T.2.2) i hi), e1, e2, prc_cg (fun v _ => lvI_cg hp hnn (nI T.1) (nI T.2.1) (nI v)), show (fun k => lvI G1 G22 (nmR N22) (nI T.1) (nI k) (nI T.2.2) N1) = (fun k => lvI G1 H22 (nmR O22) (nI T.1) (nI k) (nI T.2.2) N1) from funext fun k => lvI_cg hp hnn (nI T.1) (nI k) (nI T.2.2)]
  have en : aEnd (G1, G21, G22) (N1, N21, N22) T S = aEnd (G1, G21, H22) (N1, N21, O22) T S2 := by
    have ed : decide (¬ (wst G1 G22 (nmR N22) (nI T.1) (nI T.2.1) (nI T.2.2) N1).2 < nI T.2.1) = decide (¬ (wst G1 H22 (nmR O22) (nI T.1) (nI T.2.1) (nI T.2.2) N1).2 < nI T.2.1) := by simp only [wst_cg hp hnn (nI T.1) (nI T.2.1) (nI T.2.2) N1 (Nat.le_refl _)]
    unfold aEnd galC cC
    dsimp only
    rw [brb_cg (fun v _ => seen_cg hp hnn hS (nI T.1) (nI T.2.1) (nI v)), ask_cg (fun f _ => mxE_congr (fun e _ => tl_cg (fun v _ => ⟨seen_cg hp hnn hS (nI T.1) (nI T.2.1) (nI v), wF_cg hp hnn (nI T.1) (nI T.2.1) (nI v) f N1 (Nat.le_refl _)⟩))), ed, gal_congr (fun t ht => ⟨wC_cg hp hnn (nI T.1) (nI T.2.1) (nI T.2.2) t ht, wX_cg hp hnn (nI T.1) (nI T.2.1) (nI T.2.2) t ht⟩) (fun t ht => wN_cg hp hnn (nI T.1) (nI T.2.1) (nI T.2.2) t ht)]
  unfold dgst
  dsimp only
  rw [dgN_cg (n := 8) (fun j _ => by rw [cn j]), dgN_cg fl, dgN_cg na, dgN_cg be, pl, en]
