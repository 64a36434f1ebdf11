/-- the law as a method (its name is not asked for) -/
def ML (nm : String) : MD := (⟨RL, nm, "([I)Z"⟩, cL_law, 4, some .boolean, room_1)
def QL : Option Value → List AE → Prop := fun v _ => v = some (.int 1)
theorem cwL {c : List AE} (h : CW c) : c.length = 44 ∧ c.all (seB 44) = true ∧ ∃ fs, c[0]? = some (zO 9 fs) := by
  obtain ⟨t0, t1, G, N, T, C, D, P, S, H0, H1, H2, H3, ta, lf, rfl⟩ := h
  exact ⟨rfl, rfl, _, rfl⟩
theorem simC {c m : List AE} (h : Sim c m) : CW c := by
  obtain ⟨t0, t1, G, N, T, C, D, P, S, H0, H1, H2, H3, ta, lf, U, B, F, A, se, R, O, V, al, dr, rfl, rfl, k⟩ := h
  exact cw_of _ _ _ _ _ _ _ _ _ _ _ _ _ _ _
theorem simM {c m : List AE} (h : Sim c m) : m.length = 21 ∧ m.all (seB 21) = true ∧ ∃ fs, m[0]? = some (zO 10 fs) := by
  obtain ⟨t0, t1, G, N, T, C, D, P, S, H0, H1, H2, H3, ta, lf, U, B, F, A, se, R, O, V, al, dr, rfl, rfl, k⟩ := h
  exact ⟨rfl, rfl, _, rfl⟩
theorem vin_off {i j Ln : Nat} (h : i + j < Ln) (hL : Ln ≤ 384) : vp_in (nI i + nI j) Ln := by
  rw [nI_add]
  exact vp_in_nI h (by omega)
theorem fit_law {nm : String} {z : MD} {cn sn : Nat} (h1 : Nat.ble (z.2.2.2.2.frames + 1) 10 = true) (h2 : Nat.ble (8 + (z.2.2.1 + 11) + z.2.2.2.2.locals) 384 = true) (h3 : Nat.ble z.2.2.2.2.cells 10 = true) (h4 : Nat.ble z.2.2.2.2.slots 10 = true) (hc : cn ≤ 590010) (hs : sn ≤ 7000010) : fitB (ML nm) z cn sn = true := by
  have h3 := Nat.le_of_ble_eq_true h3
  have h4 := Nat.le_of_ble_eq_true h4
  have e3 : Nat.ble (cn + z.2.2.2.2.cells) 600000 = true := Nat.ble_eq_true_of_le (by omega)
  have e4 : Nat.ble (sn + z.2.2.2.2.slots) 7302250 = true := Nat.ble_eq_true_of_le (by omega)
  show (Nat.ble (z.2.2.2.2.frames + 1) 10 && Nat.ble (8 + (z.2.2.1 + 11) + z.2.2.2.2.locals) 384 && Nat.ble (cn + z.2.2.2.2.cells) 600000 && Nat.ble (sn + z.2.2.2.2.slots) 7302250) = true
  rw [h1, h2, e3, e4]
  rfl
section LawTwo
variable {X : (Nat → Nat) → State → (Nat → Prop) → Prop} {M z : MD} {Q Qz : Option Value → List AE → Prop} {n0 cn sn pc : Nat} {L : List (Option Value)} {st : List Value} {w : List AE}
theorem go_widen {cn2 sn2 : Nat} (h1 : cn ≤ cn2) (h2 : sn ≤ sn2) (k : Go X M Q n0 cn2 sn2 pc L st w) : Go X M Q n0 cn sn pc L st w := by
  intro p l e s m args below meth c D ad0 ad tC A H locs ls Z hC hK hX hR hl hZ
  exact W.widen h1 h2 (k p l e s m args below meth c D ad0 ad tC A H locs ls Z hC hK hX hR hl hZ)
theorem go_callC {c m : List AE} {i n : Nat} {av rest : List Value} (hcw : CW c) (hd : decode M.2.1 pc = .ok (.invokevirtual i, 3)) (hlk : Cond.methodLink M.1.cls i z.1 ∈ tb) (hz : CV z n) (hE : Ev z (.ref 0 :: av) c Qz) (hst : st = av.reverse ++ .ref 0 :: rest) (hav : av.all noRef = true) (hn : av.length = n) (hcz : z.1.cls = RX11) (hF : fitB M z cn sn = true) (hrest : resB rest = true) (hQ : ∀ v c1, Qz v c1 → CW c1 ∧ v.toList.all noRef = true)
    (k : ∀ v c1, Qz v c1 → Go X M Q n0 (cn + z.2.2.2.2.cells) (sn + z.2.2.2.2.slots) (pc + 3) L (v.toList ++ rest) (LW c1 m)) : Go X M Q n0 cn sn pc L st (LW c m) := by
  obtain ⟨h1, h2, fs, h3⟩ := cwL hcw
  refine go_callB (ci := 9) [] (m.map (rn (fun j => 44 + j))) c hd hlk hz hE hst hav hn (by rw [h1]; exact h2) h3 (by rw [hcz]; exact ⟨_, _, rfl⟩) hF hrest (fun v b1 h => ?_) k
  obtain ⟨a1, a2⟩ := hQ v b1 h
  obtain ⟨b1, b2, -⟩ := cwL a1
  exact ⟨by rw [b1, h1], by rw [h1]; exact b2, a2⟩
theorem go_callM {c m c2 : List AE} {i n : Nat} {av rest : List Value} (hcw : CW c) (hm : Sim c2 m) (hd : decode M.2.1 pc = .ok (.invokevirtual i, 3)) (hlk : Cond.methodLink M.1.cls i z.1 ∈ tb) (hz : CV z n) (hE : Ev z (.ref 0 :: av) m Qz) (hst : st = av.reverse ++ .ref 44 :: rest) (hav : av.all noRef = true) (hn : av.length = n) (hcz : z.1.cls = RX12) (hF : fitB M z cn sn = true) (hrest : resB rest = true) (hQ : ∀ v m1, Qz v m1 → Sim c m1 ∧ v.toList.all noRef = true)
    (k : ∀ v m1, Qz v m1 → Go X M Q n0 (cn + z.2.2.2.2.cells) (sn + z.2.2.2.2.slots) (pc + 3) L (v.toList ++ rest) (LW c m1)) : Go X M Q n0 cn sn pc L st (LW c m) := by
  obtain ⟨h1, h2, fs, h3⟩ := simM hm
  have hc := (cwL hcw).1
  have e : ∀ x : List AE, LW c x = c.map (rn (fun j => 0 + j)) ++ (x.map (rn (fun j => (c.map (rn (fun j => 0 + j))).length + j)) ++ []) := fun x => by
    unfold LW
    rw [List.append_nil, List.length_map, hc]
  rw [e m]
  refine go_callB (ci := 10) (c.map (rn (fun j => 0 + j))) [] m hd hlk hz hE (by rw [List.length_map, hc]; exact hst) hav hn (by rw [h1]; exact h2) h3 (by rw [hcz]; exact ⟨_, _, rfl⟩) hF hrest (fun v b1 h => ?_) (fun v m1 h => ?_)
  · obtain ⟨a1, a2⟩ := hQ v b1 h
    obtain ⟨b1, b2, -⟩ := simM a1
    exact ⟨by rw [b1, h1], by rw [h1]; exact b2, a2⟩
  · rw [← e m1]
    exact k v m1 h
end LawTwo
set_option maxRecDepth 100000 in
theorem law_type {nm : String} {b Ln : Nat} {xs : Nat → Int32} (i : Nat) (hi : i + 6 ≤ Ln) (hL : Ln ≤ 384) (c m : List AE) (hs : Sim c m) (cn sn : Nat) (hcn : cn ≤ 590000) (hsn : sn ≤ 7000000) (k : ∀ c1 m1, Sim c1 m1 → Go (XL b Ln xs) (ML nm) QL 0 (cn + 10 + 10) (sn + 10 + 10) 1111 [some (.ref sid), some (.ref 0), some (.ref 44), some (.int (nI i))] [] (LW c1 m1)) : Go (XL b Ln xs) (ML nm) QL 0 cn sn 184 [some (.ref sid), some (.ref 0), some (.ref 44), some (.int (nI i))] [] (LW c m) := by
  refine go_aload_n dL_law_184 rfl ?_
  refine go_aload_n dL_law_185 rfl ?_
  refine go_iload_n dL_law_186 rfl ?_
  refine go_iconst (1) dL_law_187 (by decide) ?_
  refine go_iadd dL_law_188 ?_
  refine go_sld dL_law_189 (vin_off (j := 1) (by omega) hL) ?_
  refine go_aload_n dL_law_190 rfl ?_
  refine go_iload_n dL_law_191 rfl ?_
  refine go_iconst (2) dL_law_192 (by decide) ?_
  refine go_iadd dL_law_193 ?_
  refine go_sld dL_law_194 (vin_off (j := 2) (by omega) hL) ?_
  obtain ⟨Q1, hE1, hq1⟩ := ag_type (xs (nI i + 1).toNatClampNeg) (xs (nI i + 2).toNatClampNeg) c m hs
  refine go_callC (z := MX11_type) (simC hs) dL_law_195 lL_13 sX11_type hE1 rfl rfl rfl rfl (fit_law rfl rfl rfl rfl (by omega) (by omega)) rfl (fun v c1 h => ?_) (fun v c1 h => ?_)
  · obtain ⟨⟨r, rfl⟩, hcw, -⟩ := hq1 v c1 h
    exact ⟨hcw, rfl⟩
  obtain ⟨⟨r, rfl⟩, hcw, hE2⟩ := hq1 v c1 h
  refine go_aload_n dL_law_198 rfl ?_
  refine go_aload_n dL_law_199 rfl ?_
  refine go_iload_n dL_law_200 rfl ?_
  refine go_iconst (1) dL_law_201 (by decide) ?_
  refine go_iadd dL_law_202 ?_
  refine go_sld dL_law_203 (vin_off (j := 1) (by omega) hL) ?_
  refine go_aload_n dL_law_204 rfl ?_
  refine go_iload_n dL_law_205 rfl ?_
  refine go_iconst (2) dL_law_206 (by decide) ?_
  refine go_iadd dL_law_207 ?_
  refine go_sld dL_law_208 (vin_off (j := 2) (by omega) hL) ?_
  refine go_callM (z := MX12_type) hcw hs dL_law_209 lL_17 sX12_type hE2 rfl rfl rfl rfl (fit_law rfl rfl rfl rfl (show cn + MX11_type.2.2.2.2.cells ≤ 590010 from Nat.add_le_add hcn (show MX11_type.2.2.2.2.cells ≤ 10 from Nat.le_of_ble_eq_true rfl)) (show sn + MX11_type.2.2.2.2.slots ≤ 7000010 from Nat.add_le_add hsn (show MX11_type.2.2.2.2.slots ≤ 10 from Nat.le_of_ble_eq_true rfl))) rfl (fun v2 m1 h2 => ?_) (fun v2 m1 h2 => ?_)
  · obtain ⟨rfl, hsim⟩ := h2
    exact ⟨hsim, rfl⟩
  obtain ⟨rfl, hsim⟩ := h2
  refine go_icmp_eq 1111 dL_law_212 (by decide) (fun _ => ?_) (fun q => absurd rfl q)
  exact go_widen (Nat.add_le_add (Nat.add_le_add_left (show MX11_type.2.2.2.2.cells ≤ 10 from Nat.le_of_ble_eq_true rfl) cn) (show MX12_type.2.2.2.2.cells ≤ 10 from Nat.le_of_ble_eq_true rfl)) (Nat.add_le_add (Nat.add_le_add_left (show MX11_type.2.2.2.2.slots ≤ 10 from Nat.le_of_ble_eq_true rfl) sn) (show MX12_type.2.2.2.2.slots ≤ 10 from Nat.le_of_ble_eq_true rfl)) (k c1 m1 hsim)
set_option maxRecDepth 100000 in
theorem law_wipe {nm : String} {b Ln : Nat} {xs : Nat → Int32} (i : Nat) (hi : i + 6 ≤ Ln) (hL : Ln ≤ 384) (c m : List AE) (hs : Sim c m) (cn sn : Nat) (hcn : cn ≤ 590000) (hsn : sn ≤ 7000000) (k : ∀ c1 m1, Sim c1 m1 → Go (XL b Ln xs) (ML nm) QL 0 (cn + 10 + 10) (sn + 10 + 10) 1111 [some (.ref sid), some (.ref 0), some (.ref 44), some (.int (nI i))] [] (LW c1 m1)) : Go (XL b Ln xs) (ML nm) QL 0 cn sn 217 [some (.ref sid), some (.ref 0), some (.ref 44), some (.int (nI i))] [] (LW c m) := by
  refine go_aload_n dL_law_217 rfl ?_
  refine go_aload_n dL_law_218 rfl ?_
  refine go_iload_n dL_law_219 rfl ?_
  refine go_iconst (1) dL_law_220 (by decide) ?_
  refine go_iadd dL_law_221 ?_
  refine go_sld dL_law_222 (vin_off (j := 1) (by omega) hL) ?_
  obtain ⟨Q1, hE1, hq1⟩ := ag_wipe (xs (nI i + 1).toNatClampNeg) c m hs
  refine go_callC (z := MX11_wipe) (simC hs) dL_law_223 lL_18 sX11_wipe hE1 rfl rfl rfl rfl (fit_law rfl rfl rfl rfl (by omega) (by omega)) rfl (fun v c1 h => ?_) (fun v c1 h => ?_)
  · obtain ⟨⟨r, rfl⟩, hcw, -⟩ := hq1 v c1 h
    exact ⟨hcw, rfl⟩
  obtain ⟨⟨r, rfl⟩, hcw, hE2⟩ := hq1 v c1 h
  refine go_aload_n dL_law_226 rfl ?_
  refine go_aload_n dL_law_227 rfl ?_
  refine go_iload_n dL_law_228 rfl ?_
  refine go_iconst (1) dL_law_229 (by decide) ?_
  refine go_iadd dL_law_230 ?_
  refine go_sld dL_law_231 (vin_off (j := 1) (by omega) hL) ?_
  refine go_callM (z := MX12_wipe) hcw hs dL_law_232 lL_22 sX12_wipe hE2 rfl rfl rfl rfl (fit_law rfl rfl rfl rfl (show cn + MX11_wipe.2.2.2.2.cells ≤ 590010 from Nat.add_le_add hcn (show MX11_wipe.2.2.2.2.cells ≤ 10 from Nat.le_of_ble_eq_true rfl)) (show sn + MX11_wipe.2.2.2.2.slots ≤ 7000010 from Nat.add_le_add hsn (show MX11_wipe.2.2.2.2.slots ≤ 10 from Nat.le_of_ble_eq_true rfl))) rfl (fun v2 m1 h2 => ?_) (fun v2 m1 h2 => ?_)
  · obtain ⟨rfl, hsim⟩ := h2
    exact ⟨hsim, rfl⟩
  obtain ⟨rfl, hsim⟩ := h2
  refine go_icmp_eq 1111 dL_law_235 (by decide) (fun _ => ?_) (fun q => absurd rfl q)
  exact go_widen (Nat.add_le_add (Nat.add_le_add_left (show MX11_wipe.2.2.2.2.cells ≤ 10 from Nat.le_of_ble_eq_true rfl) cn) (show MX12_wipe.2.2.2.2.cells ≤ 10 from Nat.le_of_ble_eq_true rfl)) (Nat.add_le_add (Nat.add_le_add_left (show MX11_wipe.2.2.2.2.slots ≤ 10 from Nat.le_of_ble_eq_true rfl) sn) (show MX12_wipe.2.2.2.2.slots ≤ 10 from Nat.le_of_ble_eq_true rfl)) (k c1 m1 hsim)
set_option maxRecDepth 100000 in
theorem law_undo {nm : String} {b Ln : Nat} {xs : Nat → Int32} (i : Nat) (hi : i + 6 ≤ Ln) (hL : Ln ≤ 384) (c m : List AE) (hs : Sim c m) (cn sn : Nat) (hcn : cn ≤ 590000) (hsn : sn ≤ 7000000) (k : ∀ c1 m1, Sim c1 m1 → Go (XL b Ln xs) (ML nm) QL 0 (cn + 10 + 10) (sn + 10 + 10) 1111 [some (.ref sid), some (.ref 0), some (.ref 44), some (.int (nI i))] [] (LW c1 m1)) : Go (XL b Ln xs) (ML nm) QL 0 cn sn 240 [some (.ref sid), some (.ref 0), some (.ref 44), some (.int (nI i))] [] (LW c m) := by
  refine go_aload_n dL_law_240 rfl ?_
  refine go_aload_n dL_law_241 rfl ?_
  refine go_iload_n dL_law_242 rfl ?_
  refine go_iconst (1) dL_law_243 (by decide) ?_
  refine go_iadd dL_law_244 ?_
  refine go_sld dL_law_245 (vin_off (j := 1) (by omega) hL) ?_
  obtain ⟨Q1, hE1, hq1⟩ := ag_undo (xs (nI i + 1).toNatClampNeg) c m hs
  refine go_callC (z := MX11_undo) (simC hs) dL_law_246 lL_23 sX11_undo hE1 rfl rfl rfl rfl (fit_law rfl rfl rfl rfl (by omega) (by omega)) rfl (fun v c1 h => ?_) (fun v c1 h => ?_)
  · obtain ⟨⟨r, rfl⟩, hcw, -⟩ := hq1 v c1 h
    exact ⟨hcw, rfl⟩
  obtain ⟨⟨r, rfl⟩, hcw, hE2⟩ := hq1 v c1 h
  refine go_aload_n dL_law_249 rfl ?_
  refine go_aload_n dL_law_250 rfl ?_
  refine go_iload_n dL_law_251 rfl ?_
  refine go_iconst (1) dL_law_252 (by decide) ?_
  refine go_iadd dL_law_253 ?_
  refine go_sld dL_law_254 (vin_off (j := 1) (by omega) hL) ?_
  refine go_callM (z := MX12_undo) hcw hs dL_law_255 lL_26 sX12_undo hE2 rfl rfl rfl rfl (fit_law rfl rfl rfl rfl (show cn + MX11_undo.2.2.2.2.cells ≤ 590010 from Nat.add_le_add hcn (show MX11_undo.2.2.2.2.cells ≤ 10 from Nat.le_of_ble_eq_true rfl)) (show sn + MX11_undo.2.2.2.2.slots ≤ 7000010 from Nat.add_le_add hsn (show MX11_undo.2.2.2.2.slots ≤ 10 from Nat.le_of_ble_eq_true rfl))) rfl (fun v2 m1 h2 => ?_) (fun v2 m1 h2 => ?_)
  · obtain ⟨rfl, hsim⟩ := h2
    exact ⟨hsim, rfl⟩
  obtain ⟨rfl, hsim⟩ := h2
  refine go_icmp_eq 1111 dL_law_258 (by decide) (fun _ => ?_) (fun q => absurd rfl q)
  exact go_widen (Nat.add_le_add (Nat.add_le_add_left (show MX11_undo.2.2.2.2.cells ≤ 10 from Nat.le_of_ble_eq_true rfl) cn) (show MX12_undo.2.2.2.2.cells ≤ 10 from Nat.le_of_ble_eq_true rfl)) (Nat.add_le_add (Nat.add_le_add_left (show MX11_undo.2.2.2.2.slots ≤ 10 from Nat.le_of_ble_eq_true rfl) sn) (show MX12_undo.2.2.2.2.slots ≤ 10 from Nat.le_of_ble_eq_true rfl)) (k c1 m1 hsim)
set_option maxRecDepth 100000 in
theorem law_fault {nm : String} {b Ln : Nat} {xs : Nat → Int32} (i : Nat) (hi : i + 6 ≤ Ln) (hL : Ln ≤ 384) (c m : List AE) (hs : Sim c m) (cn sn : Nat) (hcn : cn ≤ 590000) (hsn : sn ≤ 7000000) (k : ∀ c1 m1, Sim c1 m1 → Go (XL b Ln xs) (ML nm) QL 0 (cn + 10 + 10) (sn + 10 + 10) 1111 [some (.ref sid), some (.ref 0), some (.ref 44), some (.int (nI i))] [] (LW c1 m1)) : Go (XL b Ln xs) (ML nm) QL 0 cn sn 263 [some (.ref sid), some (.ref 0), some (.ref 44), some (.int (nI i))] [] (LW c m) := by
  refine go_aload_n dL_law_263 rfl ?_
  refine go_aload_n dL_law_264 rfl ?_
  refine go_iload_n dL_law_265 rfl ?_
  refine go_iconst (1) dL_law_266 (by decide) ?_
  refine go_iadd dL_law_267 ?_
  refine go_sld dL_law_268 (vin_off (j := 1) (by omega) hL) ?_
  obtain ⟨Q1, hE1, hq1⟩ := ag_fault (xs (nI i + 1).toNatClampNeg) c m hs
  refine go_callC (z := MX11_fault) (simC hs) dL_law_269 lL_27 sX11_fault hE1 rfl rfl rfl rfl (fit_law rfl rfl rfl rfl (by omega) (by omega)) rfl (fun v c1 h => ?_) (fun v c1 h => ?_)
  · obtain ⟨⟨r, rfl⟩, hcw, -⟩ := hq1 v c1 h
    exact ⟨hcw, rfl⟩
  obtain ⟨⟨r, rfl⟩, hcw, hE2⟩ := hq1 v c1 h
  refine go_aload_n dL_law_272 rfl ?_
  refine go_aload_n dL_law_273 rfl ?_
  refine go_iload_n dL_law_274 rfl ?_
  refine go_iconst (1) dL_law_275 (by decide) ?_
  refine go_iadd dL_law_276 ?_
  refine go_sld dL_law_277 (vin_off (j := 1) (by omega) hL) ?_
  refine go_callM (z := MX12_fault) hcw hs dL_law_278 lL_30 sX12_fault hE2 rfl rfl rfl rfl (fit_law rfl rfl rfl rfl (show cn + MX11_fault.2.2.2.2.cells ≤ 590010 from Nat.add_le_add hcn (show MX11_fault.2.2.2.2.cells ≤ 10 from Nat.le_of_ble_eq_true rfl)) (show sn + MX11_fault.2.2.2.2.slots ≤ 7000010 from Nat.add_le_add hsn (show MX11_fault.2.2.2.2.slots ≤ 10 from Nat.le_of_ble_eq_true rfl))) rfl (fun v2 m1 h2 => ?_) (fun v2 m1 h2 => ?_)
  · obtain ⟨rfl, hsim⟩ := h2
    exact ⟨hsim, rfl⟩
  obtain ⟨rfl, hsim⟩ := h2
  refine go_icmp_eq 1111 dL_law_281 (by decide) (fun _ => ?_) (fun q => absurd rfl q)
  exact go_widen (Nat.add_le_add (Nat.add_le_add_left (show MX11_fault.2.2.2.2.cells ≤ 10 from Nat.le_of_ble_eq_true rfl) cn) (show MX12_fault.2.2.2.2.cells ≤ 10 from Nat.le_of_ble_eq_true rfl)) (Nat.add_le_add (Nat.add_le_add_left (show MX11_fault.2.2.2.2.slots ≤ 10 from Nat.le_of_ble_eq_true rfl) sn) (show MX12_fault.2.2.2.2.slots ≤ 10 from Nat.le_of_ble_eq_true rfl)) (k c1 m1 hsim)
set_option maxRecDepth 100000 in
theorem law_felon {nm : String} {b Ln : Nat} {xs : Nat → Int32} (i : Nat) (hi : i + 6 ≤ Ln) (hL : Ln ≤ 384) (c m : List AE) (hs : Sim c m) (cn sn : Nat) (hcn : cn ≤ 590000) (hsn : sn ≤ 7000000) (k : ∀ c1 m1, Sim c1 m1 → Go (XL b Ln xs) (ML nm) QL 0 (cn + 10 + 10) (sn + 10 + 10) 1111 [some (.ref sid), some (.ref 0), some (.ref 44), some (.int (nI i))] [] (LW c1 m1)) : Go (XL b Ln xs) (ML nm) QL 0 cn sn 286 [some (.ref sid), some (.ref 0), some (.ref 44), some (.int (nI i))] [] (LW c m) := by
  refine go_aload_n dL_law_286 rfl ?_
  refine go_aload_n dL_law_287 rfl ?_
  refine go_iload_n dL_law_288 rfl ?_
  refine go_iconst (1) dL_law_289 (by decide) ?_
  refine go_iadd dL_law_290 ?_
  refine go_sld dL_law_291 (vin_off (j := 1) (by omega) hL) ?_
  refine go_aload_n dL_law_292 rfl ?_
  refine go_iload_n dL_law_293 rfl ?_
  refine go_iconst (2) dL_law_294 (by decide) ?_
  refine go_iadd dL_law_295 ?_
  refine go_sld dL_law_296 (vin_off (j := 2) (by omega) hL) ?_
  obtain ⟨Q1, hE1, hq1⟩ := ag_felon (xs (nI i + 1).toNatClampNeg) (xs (nI i + 2).toNatClampNeg) c m hs
  refine go_callC (z := MX11_felon) (simC hs) dL_law_297 lL_31 sX11_felon hE1 rfl rfl rfl rfl (fit_law rfl rfl rfl rfl (by omega) (by omega)) rfl (fun v c1 h => ?_) (fun v c1 h => ?_)
  · obtain ⟨⟨r, rfl⟩, hcw, -⟩ := hq1 v c1 h
    exact ⟨hcw, rfl⟩
  obtain ⟨⟨r, rfl⟩, hcw, hE2⟩ := hq1 v c1 h
  refine go_aload_n dL_law_300 rfl ?_
  refine go_aload_n dL_law_301 rfl ?_
  refine go_iload_n dL_law_302 rfl ?_
  refine go_iconst (1) dL_law_303 (by decide) ?_
  refine go_iadd dL_law_304 ?_
  refine go_sld dL_law_305 (vin_off (j := 1) (by omega) hL) ?_
  refine go_aload_n dL_law_306 rfl ?_
  refine go_iload_n dL_law_307 rfl ?_
  refine go_iconst (2) dL_law_308 (by decide) ?_
  refine go_iadd dL_law_309 ?_
  refine go_sld dL_law_310 (vin_off (j := 2) (by omega) hL) ?_
  refine go_callM (z := MX12_felon) hcw hs dL_law_311 lL_34 sX12_felon hE2 rfl rfl rfl rfl (fit_law rfl rfl rfl rfl (show cn + MX11_felon.2.2.2.2.cells ≤ 590010 from Nat.add_le_add hcn (show MX11_felon.2.2.2.2.cells ≤ 10 from Nat.le_of_ble_eq_true rfl)) (show sn + MX11_felon.2.2.2.2.slots ≤ 7000010 from Nat.add_le_add hsn (show MX11_felon.2.2.2.2.slots ≤ 10 from Nat.le_of_ble_eq_true rfl))) rfl (fun v2 m1 h2 => ?_) (fun v2 m1 h2 => ?_)
  · obtain ⟨rfl, hsim⟩ := h2
    exact ⟨hsim, rfl⟩
  obtain ⟨rfl, hsim⟩ := h2
  refine go_icmp_eq 1111 dL_law_314 (by decide) (fun _ => ?_) (fun q => absurd rfl q)
  exact go_widen (Nat.add_le_add (Nat.add_le_add_left (show MX11_felon.2.2.2.2.cells ≤ 10 from Nat.le_of_ble_eq_true rfl) cn) (show MX12_felon.2.2.2.2.cells ≤ 10 from Nat.le_of_ble_eq_true rfl)) (Nat.add_le_add (Nat.add_le_add_left (show MX11_felon.2.2.2.2.slots ≤ 10 from Nat.le_of_ble_eq_true rfl) sn) (show MX12_felon.2.2.2.2.slots ≤ 10 from Nat.le_of_ble_eq_true rfl)) (k c1 m1 hsim)
set_option maxRecDepth 100000 in
theorem law_name {nm : String} {b Ln : Nat} {xs : Nat → Int32} (i : Nat) (hi : i + 6 ≤ Ln) (hL : Ln ≤ 384) (c m : List AE) (hs : Sim c m) (cn sn : Nat) (hcn : cn ≤ 590000) (hsn : sn ≤ 7000000) (k : ∀ c1 m1, Sim c1 m1 → Go (XL b Ln xs) (ML nm) QL 0 (cn + 10 + 10) (sn + 10 + 10) 1111 [some (.ref sid), some (.ref 0), some (.ref 44), some (.int (nI i))] [] (LW c1 m1)) : Go (XL b Ln xs) (ML nm) QL 0 cn sn 319 [some (.ref sid), some (.ref 0), some (.ref 44), some (.int (nI i))] [] (LW c m) := by
  refine go_aload_n dL_law_319 rfl ?_
  refine go_aload_n dL_law_320 rfl ?_
  refine go_iload_n dL_law_321 rfl ?_
  refine go_iconst (1) dL_law_322 (by decide) ?_
  refine go_iadd dL_law_323 ?_
  refine go_sld dL_law_324 (vin_off (j := 1) (by omega) hL) ?_
  obtain ⟨Q1, hE1, hq1⟩ := ag_name (xs (nI i + 1).toNatClampNeg) c m hs
  refine go_callC (z := MX11_name) (simC hs) dL_law_325 lL_35 sX11_name hE1 rfl rfl rfl rfl (fit_law rfl rfl rfl rfl (by omega) (by omega)) rfl (fun v c1 h => ?_) (fun v c1 h => ?_)
  · obtain ⟨⟨r, rfl⟩, hcw, -⟩ := hq1 v c1 h
    exact ⟨hcw, rfl⟩
  obtain ⟨⟨r, rfl⟩, hcw, hE2⟩ := hq1 v c1 h
  refine go_aload_n dL_law_328 rfl ?_
  refine go_aload_n dL_law_329 rfl ?_
  refine go_iload_n dL_law_330 rfl ?_
  refine go_iconst (1) dL_law_331 (by decide) ?_
  refine go_iadd dL_law_332 ?_
  refine go_sld dL_law_333 (vin_off (j := 1) (by omega) hL) ?_
  refine go_callM (z := MX12_name) hcw hs dL_law_334 lL_38 sX12_name hE2 rfl rfl rfl rfl (fit_law rfl rfl rfl rfl (show cn + MX11_name.2.2.2.2.cells ≤ 590010 from Nat.add_le_add hcn (show MX11_name.2.2.2.2.cells ≤ 10 from Nat.le_of_ble_eq_true rfl)) (show sn + MX11_name.2.2.2.2.slots ≤ 7000010 from Nat.add_le_add hsn (show MX11_name.2.2.2.2.slots ≤ 10 from Nat.le_of_ble_eq_true rfl))) rfl (fun v2 m1 h2 => ?_) (fun v2 m1 h2 => ?_)
  · obtain ⟨rfl, hsim⟩ := h2
    exact ⟨hsim, rfl⟩
  obtain ⟨rfl, hsim⟩ := h2
  refine go_icmp_eq 1111 dL_law_337 (by decide) (fun _ => ?_) (fun q => absurd rfl q)
  exact go_widen (Nat.add_le_add (Nat.add_le_add_left (show MX11_name.2.2.2.2.cells ≤ 10 from Nat.le_of_ble_eq_true rfl) cn) (show MX12_name.2.2.2.2.cells ≤ 10 from Nat.le_of_ble_eq_true rfl)) (Nat.add_le_add (Nat.add_le_add_left (show MX11_name.2.2.2.2.slots ≤ 10 from Nat.le_of_ble_eq_true rfl) sn) (show MX12_name.2.2.2.2.slots ≤ 10 from Nat.le_of_ble_eq_true rfl)) (k c1 m1 hsim)
set_option maxRecDepth 100000 in
theorem law_set {nm : String} {b Ln : Nat} {xs : Nat → Int32} (i : Nat) (hi : i + 6 ≤ Ln) (hL : Ln ≤ 384) (c m : List AE) (hs : Sim c m) (cn sn : Nat) (hcn : cn ≤ 590000) (hsn : sn ≤ 7000000) (k : ∀ c1 m1, Sim c1 m1 → Go (XL b Ln xs) (ML nm) QL 0 (cn + 10 + 10) (sn + 10 + 10) 1111 [some (.ref sid), some (.ref 0), some (.ref 44), some (.int (nI i))] [] (LW c1 m1)) : Go (XL b Ln xs) (ML nm) QL 0 cn sn 342 [some (.ref sid), some (.ref 0), some (.ref 44), some (.int (nI i))] [] (LW c m) := by
  refine go_aload_n dL_law_342 rfl ?_
  refine go_aload_n dL_law_343 rfl ?_
  refine go_iload_n dL_law_344 rfl ?_
  refine go_iconst (1) dL_law_345 (by decide) ?_
  refine go_iadd dL_law_346 ?_
  refine go_sld dL_law_347 (vin_off (j := 1) (by omega) hL) ?_
  refine go_aload_n dL_law_348 rfl ?_
  refine go_iload_n dL_law_349 rfl ?_
  refine go_iconst (2) dL_law_350 (by decide) ?_
  refine go_iadd dL_law_351 ?_
  refine go_sld dL_law_352 (vin_off (j := 2) (by omega) hL) ?_
  obtain ⟨Q1, hE1, hq1⟩ := ag_set (xs (nI i + 1).toNatClampNeg) (xs (nI i + 2).toNatClampNeg) c m hs
  refine go_callC (z := MX11_set) (simC hs) dL_law_353 lL_39 sX11_set hE1 rfl rfl rfl rfl (fit_law rfl rfl rfl rfl (by omega) (by omega)) rfl (fun v c1 h => ?_) (fun v c1 h => ?_)
  · obtain ⟨⟨r, rfl⟩, hcw, -⟩ := hq1 v c1 h
    exact ⟨hcw, rfl⟩
  obtain ⟨⟨r, rfl⟩, hcw, hE2⟩ := hq1 v c1 h
  refine go_aload_n dL_law_356 rfl ?_
  refine go_aload_n dL_law_357 rfl ?_
  refine go_iload_n dL_law_358 rfl ?_
  refine go_iconst (1) dL_law_359 (by decide) ?_
  refine go_iadd dL_law_360 ?_
  refine go_sld dL_law_361 (vin_off (j := 1) (by omega) hL) ?_
  refine go_aload_n dL_law_362 rfl ?_
  refine go_iload_n dL_law_363 rfl ?_
  refine go_iconst (2) dL_law_364 (by decide) ?_
  refine go_iadd dL_law_365 ?_
  refine go_sld dL_law_366 (vin_off (j := 2) (by omega) hL) ?_
  refine go_callM (z := MX12_set) hcw hs dL_law_367 lL_42 sX12_set hE2 rfl rfl rfl rfl (fit_law rfl rfl rfl rfl (show cn + MX11_set.2.2.2.2.cells ≤ 590010 from Nat.add_le_add hcn (show MX11_set.2.2.2.2.cells ≤ 10 from Nat.le_of_ble_eq_true rfl)) (show sn + MX11_set.2.2.2.2.slots ≤ 7000010 from Nat.add_le_add hsn (show MX11_set.2.2.2.2.slots ≤ 10 from Nat.le_of_ble_eq_true rfl))) rfl (fun v2 m1 h2 => ?_) (fun v2 m1 h2 => ?_)
  · obtain ⟨rfl, hsim⟩ := h2
    exact ⟨hsim, rfl⟩
  obtain ⟨rfl, hsim⟩ := h2
  refine go_icmp_eq 1111 dL_law_370 (by decide) (fun _ => ?_) (fun q => absurd rfl q)
  exact go_widen (Nat.add_le_add (Nat.add_le_add_left (show MX11_set.2.2.2.2.cells ≤ 10 from Nat.le_of_ble_eq_true rfl) cn) (show MX12_set.2.2.2.2.cells ≤ 10 from Nat.le_of_ble_eq_true rfl)) (Nat.add_le_add (Nat.add_le_add_left (show MX11_set.2.2.2.2.slots ≤ 10 from Nat.le_of_ble_eq_true rfl) sn) (show MX12_set.2.2.2.2.slots ≤ 10 from Nat.le_of_ble_eq_true rfl)) (k c1 m1 hsim)
set_option maxRecDepth 100000 in
theorem law_comes {nm : String} {b Ln : Nat} {xs : Nat → Int32} (i : Nat) (hi : i + 6 ≤ Ln) (hL : Ln ≤ 384) (c m : List AE) (hs : Sim c m) (cn sn : Nat) (hcn : cn ≤ 590000) (hsn : sn ≤ 7000000) (k : ∀ c1 m1, Sim c1 m1 → Go (XL b Ln xs) (ML nm) QL 0 (cn + 10 + 10) (sn + 10 + 10) 1111 [some (.ref sid), some (.ref 0), some (.ref 44), some (.int (nI i))] [] (LW c1 m1)) : Go (XL b Ln xs) (ML nm) QL 0 cn sn 375 [some (.ref sid), some (.ref 0), some (.ref 44), some (.int (nI i))] [] (LW c m) := by
  refine go_aload_n dL_law_375 rfl ?_
  refine go_aload_n dL_law_376 rfl ?_
  refine go_iload_n dL_law_377 rfl ?_
  refine go_iconst (1) dL_law_378 (by decide) ?_
  refine go_iadd dL_law_379 ?_
  refine go_sld dL_law_380 (vin_off (j := 1) (by omega) hL) ?_
  refine go_aload_n dL_law_381 rfl ?_
  refine go_iload_n dL_law_382 rfl ?_
  refine go_iconst (2) dL_law_383 (by decide) ?_
  refine go_iadd dL_law_384 ?_
  refine go_sld dL_law_385 (vin_off (j := 2) (by omega) hL) ?_
  obtain ⟨Q1, hE1, hq1⟩ := ag_comes (xs (nI i + 1).toNatClampNeg) (xs (nI i + 2).toNatClampNeg) c m hs
  refine go_callC (z := MX11_comes) (simC hs) dL_law_386 lL_43 sX11_comes hE1 rfl rfl rfl rfl (fit_law rfl rfl rfl rfl (by omega) (by omega)) rfl (fun v c1 h => ?_) (fun v c1 h => ?_)
  · obtain ⟨⟨r, rfl⟩, hcw, -⟩ := hq1 v c1 h
    exact ⟨hcw, rfl⟩
  obtain ⟨⟨r, rfl⟩, hcw, hE2⟩ := hq1 v c1 h
  refine go_aload_n dL_law_389 rfl ?_
  refine go_aload_n dL_law_390 rfl ?_
  refine go_iload_n dL_law_391 rfl ?_
  refine go_iconst (1) dL_law_392 (by decide) ?_
  refine go_iadd dL_law_393 ?_
  refine go_sld dL_law_394 (vin_off (j := 1) (by omega) hL) ?_
  refine go_aload_n dL_law_395 rfl ?_
  refine go_iload_n dL_law_396 rfl ?_
  refine go_iconst (2) dL_law_397 (by decide) ?_
  refine go_iadd dL_law_398 ?_
  refine go_sld dL_law_399 (vin_off (j := 2) (by omega) hL) ?_
  refine go_callM (z := MX12_comes) hcw hs dL_law_400 lL_46 sX12_comes hE2 rfl rfl rfl rfl (fit_law rfl rfl rfl rfl (show cn + MX11_comes.2.2.2.2.cells ≤ 590010 from Nat.add_le_add hcn (show MX11_comes.2.2.2.2.cells ≤ 10 from Nat.le_of_ble_eq_true rfl)) (show sn + MX11_comes.2.2.2.2.slots ≤ 7000010 from Nat.add_le_add hsn (show MX11_comes.2.2.2.2.slots ≤ 10 from Nat.le_of_ble_eq_true rfl))) rfl (fun v2 m1 h2 => ?_) (fun v2 m1 h2 => ?_)
  · obtain ⟨rfl, hsim⟩ := h2
    exact ⟨hsim, rfl⟩
  obtain ⟨rfl, hsim⟩ := h2
  refine go_icmp_eq 1111 dL_law_403 (by decide) (fun _ => ?_) (fun q => absurd rfl q)
  exact go_widen (Nat.add_le_add (Nat.add_le_add_left (show MX11_comes.2.2.2.2.cells ≤ 10 from Nat.le_of_ble_eq_true rfl) cn) (show MX12_comes.2.2.2.2.cells ≤ 10 from Nat.le_of_ble_eq_true rfl)) (Nat.add_le_add (Nat.add_le_add_left (show MX11_comes.2.2.2.2.slots ≤ 10 from Nat.le_of_ble_eq_true rfl) sn) (show MX12_comes.2.2.2.2.slots ≤ 10 from Nat.le_of_ble_eq_true rfl)) (k c1 m1 hsim)
set_option maxRecDepth 100000 in
theorem law_behind {nm : String} {b Ln : Nat} {xs : Nat → Int32} (i : Nat) (hi : i + 6 ≤ Ln) (hL : Ln ≤ 384) (c m : List AE) (hs : Sim c m) (cn sn : Nat) (hcn : cn ≤ 590000) (hsn : sn ≤ 7000000) (k : ∀ c1 m1, Sim c1 m1 → Go (XL b Ln xs) (ML nm) QL 0 (cn + 10 + 10) (sn + 10 + 10) 1111 [some (.ref sid), some (.ref 0), some (.ref 44), some (.int (nI i))] [] (LW c1 m1)) : Go (XL b Ln xs) (ML nm) QL 0 cn sn 408 [some (.ref sid), some (.ref 0), some (.ref 44), some (.int (nI i))] [] (LW c m) := by
  refine go_aload_n dL_law_408 rfl ?_
  refine go_aload_n dL_law_409 rfl ?_
  refine go_iload_n dL_law_410 rfl ?_
  refine go_iconst (1) dL_law_411 (by decide) ?_
  refine go_iadd dL_law_412 ?_
  refine go_sld dL_law_413 (vin_off (j := 1) (by omega) hL) ?_
  refine go_aload_n dL_law_414 rfl ?_
  refine go_iload_n dL_law_415 rfl ?_
  refine go_iconst (2) dL_law_416 (by decide) ?_
  refine go_iadd dL_law_417 ?_
  refine go_sld dL_law_418 (vin_off (j := 2) (by omega) hL) ?_
  obtain ⟨Q1, hE1, hq1⟩ := ag_behind (xs (nI i + 1).toNatClampNeg) (xs (nI i + 2).toNatClampNeg) c m hs
  refine go_callC (z := MX11_behind) (simC hs) dL_law_419 lL_47 sX11_behind hE1 rfl rfl rfl rfl (fit_law rfl rfl rfl rfl (by omega) (by omega)) rfl (fun v c1 h => ?_) (fun v c1 h => ?_)
  · obtain ⟨⟨r, rfl⟩, hcw, -⟩ := hq1 v c1 h
    exact ⟨hcw, rfl⟩
  obtain ⟨⟨r, rfl⟩, hcw, hE2⟩ := hq1 v c1 h
  refine go_aload_n dL_law_422 rfl ?_
  refine go_aload_n dL_law_423 rfl ?_
  refine go_iload_n dL_law_424 rfl ?_
  refine go_iconst (1) dL_law_425 (by decide) ?_
  refine go_iadd dL_law_426 ?_
  refine go_sld dL_law_427 (vin_off (j := 1) (by omega) hL) ?_
  refine go_aload_n dL_law_428 rfl ?_
  refine go_iload_n dL_law_429 rfl ?_
  refine go_iconst (2) dL_law_430 (by decide) ?_
  refine go_iadd dL_law_431 ?_
  refine go_sld dL_law_432 (vin_off (j := 2) (by omega) hL) ?_
  refine go_callM (z := MX12_behind) hcw hs dL_law_433 lL_50 sX12_behind hE2 rfl rfl rfl rfl (fit_law rfl rfl rfl rfl (show cn + MX11_behind.2.2.2.2.cells ≤ 590010 from Nat.add_le_add hcn (show MX11_behind.2.2.2.2.cells ≤ 10 from Nat.le_of_ble_eq_true rfl)) (show sn + MX11_behind.2.2.2.2.slots ≤ 7000010 from Nat.add_le_add hsn (show MX11_behind.2.2.2.2.slots ≤ 10 from Nat.le_of_ble_eq_true rfl))) rfl (fun v2 m1 h2 => ?_) (fun v2 m1 h2 => ?_)
  · obtain ⟨rfl, hsim⟩ := h2
    exact ⟨hsim, rfl⟩
  obtain ⟨rfl, hsim⟩ := h2
  refine go_icmp_eq 1111 dL_law_436 (by decide) (fun _ => ?_) (fun q => absurd rfl q)
  exact go_widen (Nat.add_le_add (Nat.add_le_add_left (show MX11_behind.2.2.2.2.cells ≤ 10 from Nat.le_of_ble_eq_true rfl) cn) (show MX12_behind.2.2.2.2.cells ≤ 10 from Nat.le_of_ble_eq_true rfl)) (Nat.add_le_add (Nat.add_le_add_left (show MX11_behind.2.2.2.2.slots ≤ 10 from Nat.le_of_ble_eq_true rfl) sn) (show MX12_behind.2.2.2.2.slots ≤ 10 from Nat.le_of_ble_eq_true rfl)) (k c1 m1 hsim)
set_option maxRecDepth 100000 in
theorem law_alive {nm : String} {b Ln : Nat} {xs : Nat → Int32} (i : Nat) (hi : i + 6 ≤ Ln) (hL : Ln ≤ 384) (c m : List AE) (hs : Sim c m) (cn sn : Nat) (hcn : cn ≤ 590000) (hsn : sn ≤ 7000000) (k : ∀ c1 m1, Sim c1 m1 → Go (XL b Ln xs) (ML nm) QL 0 (cn + 10 + 10) (sn + 10 + 10) 1111 [some (.ref sid), some (.ref 0), some (.ref 44), some (.int (nI i))] [] (LW c1 m1)) : Go (XL b Ln xs) (ML nm) QL 0 cn sn 441 [some (.ref sid), some (.ref 0), some (.ref 44), some (.int (nI i))] [] (LW c m) := by
  refine go_aload_n dL_law_441 rfl ?_
  refine go_aload_n dL_law_442 rfl ?_
  refine go_iload_n dL_law_443 rfl ?_
  refine go_iconst (1) dL_law_444 (by decide) ?_
  refine go_iadd dL_law_445 ?_
  refine go_sld dL_law_446 (vin_off (j := 1) (by omega) hL) ?_
  refine go_aload_n dL_law_447 rfl ?_
  refine go_iload_n dL_law_448 rfl ?_
  refine go_iconst (2) dL_law_449 (by decide) ?_
  refine go_iadd dL_law_450 ?_
  refine go_sld dL_law_451 (vin_off (j := 2) (by omega) hL) ?_
  obtain ⟨Q1, hE1, hq1⟩ := ag_alive (xs (nI i + 1).toNatClampNeg) (xs (nI i + 2).toNatClampNeg) c m hs
  refine go_callC (z := MX11_alive) (simC hs) dL_law_452 lL_51 sX11_alive hE1 rfl rfl rfl rfl (fit_law rfl rfl rfl rfl (by omega) (by omega)) rfl (fun v c1 h => ?_) (fun v c1 h => ?_)
  · obtain ⟨⟨r, rfl⟩, hcw, -⟩ := hq1 v c1 h
    exact ⟨hcw, rfl⟩
  obtain ⟨⟨r, rfl⟩, hcw, hE2⟩ := hq1 v c1 h
  refine go_aload_n dL_law_455 rfl ?_
  refine go_aload_n dL_law_456 rfl ?_
  refine go_iload_n dL_law_457 rfl ?_
  refine go_iconst (1) dL_law_458 (by decide) ?_
  refine go_iadd dL_law_459 ?_
  refine go_sld dL_law_460 (vin_off (j := 1) (by omega) hL) ?_
  refine go_aload_n dL_law_461 rfl ?_
  refine go_iload_n dL_law_462 rfl ?_
  refine go_iconst (2) dL_law_463 (by decide) ?_
  refine go_iadd dL_law_464 ?_
  refine go_sld dL_law_465 (vin_off (j := 2) (by omega) hL) ?_
  refine go_callM (z := MX12_alive) hcw hs dL_law_466 lL_55 sX12_alive hE2 rfl rfl rfl rfl (fit_law rfl rfl rfl rfl (show cn + MX11_alive.2.2.2.2.cells ≤ 590010 from Nat.add_le_add hcn (show MX11_alive.2.2.2.2.cells ≤ 10 from Nat.le_of_ble_eq_true rfl)) (show sn + MX11_alive.2.2.2.2.slots ≤ 7000010 from Nat.add_le_add hsn (show MX11_alive.2.2.2.2.slots ≤ 10 from Nat.le_of_ble_eq_true rfl))) rfl (fun v2 m1 h2 => ?_) (fun v2 m1 h2 => ?_)
  · obtain ⟨rfl, hsim⟩ := h2
    exact ⟨hsim, rfl⟩
  obtain ⟨rfl, hsim⟩ := h2
  refine go_lcmp dL_law_469 ?_
  refine go_if_eq 1111 dL_law_470 (by decide) (fun _ => ?_) (fun q => absurd ((lg_cmp_eq r r).mpr rfl) q)
  exact go_widen (Nat.add_le_add (Nat.add_le_add_left (show MX11_alive.2.2.2.2.cells ≤ 10 from Nat.le_of_ble_eq_true rfl) cn) (show MX12_alive.2.2.2.2.cells ≤ 10 from Nat.le_of_ble_eq_true rfl)) (Nat.add_le_add (Nat.add_le_add_left (show MX11_alive.2.2.2.2.slots ≤ 10 from Nat.le_of_ble_eq_true rfl) sn) (show MX12_alive.2.2.2.2.slots ≤ 10 from Nat.le_of_ble_eq_true rfl)) (k c1 m1 hsim)
set_option maxRecDepth 100000 in
theorem law_lives {nm : String} {b Ln : Nat} {xs : Nat → Int32} (i : Nat) (hi : i + 6 ≤ Ln) (hL : Ln ≤ 384) (c m : List AE) (hs : Sim c m) (cn sn : Nat) (hcn : cn ≤ 590000) (hsn : sn ≤ 7000000) (k : ∀ c1 m1, Sim c1 m1 → Go (XL b Ln xs) (ML nm) QL 0 (cn + 10 + 10) (sn + 10 + 10) 1111 [some (.ref sid), some (.ref 0), some (.ref 44), some (.int (nI i))] [] (LW c1 m1)) : Go (XL b Ln xs) (ML nm) QL 0 cn sn 475 [some (.ref sid), some (.ref 0), some (.ref 44), some (.int (nI i))] [] (LW c m) := by
  refine go_aload_n dL_law_475 rfl ?_
  refine go_aload_n dL_law_476 rfl ?_
  refine go_iload_n dL_law_477 rfl ?_
  refine go_iconst (1) dL_law_478 (by decide) ?_
  refine go_iadd dL_law_479 ?_
  refine go_sld dL_law_480 (vin_off (j := 1) (by omega) hL) ?_
  obtain ⟨Q1, hE1, hq1⟩ := ag_lives (xs (nI i + 1).toNatClampNeg) c m hs
  refine go_callC (z := MX11_lives) (simC hs) dL_law_481 lL_56 sX11_lives hE1 rfl rfl rfl rfl (fit_law rfl rfl rfl rfl (by omega) (by omega)) rfl (fun v c1 h => ?_) (fun v c1 h => ?_)
  · obtain ⟨⟨r, rfl⟩, hcw, -⟩ := hq1 v c1 h
    exact ⟨hcw, rfl⟩
  obtain ⟨⟨r, rfl⟩, hcw, hE2⟩ := hq1 v c1 h
  refine go_aload_n dL_law_484 rfl ?_
  refine go_aload_n dL_law_485 rfl ?_
  refine go_iload_n dL_law_486 rfl ?_
  refine go_iconst (1) dL_law_487 (by decide) ?_
  refine go_iadd dL_law_488 ?_
  refine go_sld dL_law_489 (vin_off (j := 1) (by omega) hL) ?_
  refine go_callM (z := MX12_lives) hcw hs dL_law_490 lL_60 sX12_lives hE2 rfl rfl rfl rfl (fit_law rfl rfl rfl rfl (show cn + MX11_lives.2.2.2.2.cells ≤ 590010 from Nat.add_le_add hcn (show MX11_lives.2.2.2.2.cells ≤ 10 from Nat.le_of_ble_eq_true rfl)) (show sn + MX11_lives.2.2.2.2.slots ≤ 7000010 from Nat.add_le_add hsn (show MX11_lives.2.2.2.2.slots ≤ 10 from Nat.le_of_ble_eq_true rfl))) rfl (fun v2 m1 h2 => ?_) (fun v2 m1 h2 => ?_)
  · obtain ⟨rfl, hsim⟩ := h2
    exact ⟨hsim, rfl⟩
  obtain ⟨rfl, hsim⟩ := h2
  refine go_lcmp dL_law_493 ?_
  refine go_if_eq 1111 dL_law_494 (by decide) (fun _ => ?_) (fun q => absurd ((lg_cmp_eq r r).mpr rfl) q)
  exact go_widen (Nat.add_le_add (Nat.add_le_add_left (show MX11_lives.2.2.2.2.cells ≤ 10 from Nat.le_of_ble_eq_true rfl) cn) (show MX12_lives.2.2.2.2.cells ≤ 10 from Nat.le_of_ble_eq_true rfl)) (Nat.add_le_add (Nat.add_le_add_left (show MX11_lives.2.2.2.2.slots ≤ 10 from Nat.le_of_ble_eq_true rfl) sn) (show MX12_lives.2.2.2.2.slots ≤ 10 from Nat.le_of_ble_eq_true rfl)) (k c1 m1 hsim)
set_option maxRecDepth 100000 in
theorem law_harm {nm : String} {b Ln : Nat} {xs : Nat → Int32} (i : Nat) (hi : i + 6 ≤ Ln) (hL : Ln ≤ 384) (c m : List AE) (hs : Sim c m) (cn sn : Nat) (hcn : cn ≤ 590000) (hsn : sn ≤ 7000000) (k : ∀ c1 m1, Sim c1 m1 → Go (XL b Ln xs) (ML nm) QL 0 (cn + 10 + 10) (sn + 10 + 10) 1111 [some (.ref sid), some (.ref 0), some (.ref 44), some (.int (nI i))] [] (LW c1 m1)) : Go (XL b Ln xs) (ML nm) QL 0 cn sn 499 [some (.ref sid), some (.ref 0), some (.ref 44), some (.int (nI i))] [] (LW c m) := by
  refine go_aload_n dL_law_499 rfl ?_
  refine go_aload_n dL_law_500 rfl ?_
  refine go_iload_n dL_law_501 rfl ?_
  refine go_iconst (1) dL_law_502 (by decide) ?_
  refine go_iadd dL_law_503 ?_
  refine go_sld dL_law_504 (vin_off (j := 1) (by omega) hL) ?_
  obtain ⟨Q1, hE1, hq1⟩ := ag_harm (xs (nI i + 1).toNatClampNeg) c m hs
  refine go_callC (z := MX11_harm) (simC hs) dL_law_505 lL_61 sX11_harm hE1 rfl rfl rfl rfl (fit_law rfl rfl rfl rfl (by omega) (by omega)) rfl (fun v c1 h => ?_) (fun v c1 h => ?_)
  · obtain ⟨⟨r, rfl⟩, hcw, -⟩ := hq1 v c1 h
    exact ⟨hcw, rfl⟩
  obtain ⟨⟨r, rfl⟩, hcw, hE2⟩ := hq1 v c1 h
  refine go_aload_n dL_law_508 rfl ?_
  refine go_aload_n dL_law_509 rfl ?_
  refine go_iload_n dL_law_510 rfl ?_
  refine go_iconst (1) dL_law_511 (by decide) ?_
  refine go_iadd dL_law_512 ?_
  refine go_sld dL_law_513 (vin_off (j := 1) (by omega) hL) ?_
  refine go_callM (z := MX12_harm) hcw hs dL_law_514 lL_64 sX12_harm hE2 rfl rfl rfl rfl (fit_law rfl rfl rfl rfl (show cn + MX11_harm.2.2.2.2.cells ≤ 590010 from Nat.add_le_add hcn (show MX11_harm.2.2.2.2.cells ≤ 10 from Nat.le_of_ble_eq_true rfl)) (show sn + MX11_harm.2.2.2.2.slots ≤ 7000010 from Nat.add_le_add hsn (show MX11_harm.2.2.2.2.slots ≤ 10 from Nat.le_of_ble_eq_true rfl))) rfl (fun v2 m1 h2 => ?_) (fun v2 m1 h2 => ?_)
  · obtain ⟨rfl, hsim⟩ := h2
    exact ⟨hsim, rfl⟩
  obtain ⟨rfl, hsim⟩ := h2
  refine go_lcmp dL_law_517 ?_
  refine go_if_eq 1111 dL_law_518 (by decide) (fun _ => ?_) (fun q => absurd ((lg_cmp_eq r r).mpr rfl) q)
  exact go_widen (Nat.add_le_add (Nat.add_le_add_left (show MX11_harm.2.2.2.2.cells ≤ 10 from Nat.le_of_ble_eq_true rfl) cn) (show MX12_harm.2.2.2.2.cells ≤ 10 from Nat.le_of_ble_eq_true rfl)) (Nat.add_le_add (Nat.add_le_add_left (show MX11_harm.2.2.2.2.slots ≤ 10 from Nat.le_of_ble_eq_true rfl) sn) (show MX12_harm.2.2.2.2.slots ≤ 10 from Nat.le_of_ble_eq_true rfl)) (k c1 m1 hsim)
set_option maxRecDepth 100000 in
theorem law_worst {nm : String} {b Ln : Nat} {xs : Nat → Int32} (i : Nat) (hi : i + 6 ≤ Ln) (hL : Ln ≤ 384) (c m : List AE) (hs : Sim c m) (cn sn : Nat) (hcn : cn ≤ 590000) (hsn : sn ≤ 7000000) (k : ∀ c1 m1, Sim c1 m1 → Go (XL b Ln xs) (ML nm) QL 0 (cn + 10 + 10) (sn + 10 + 10) 1111 [some (.ref sid), some (.ref 0), some (.ref 44), some (.int (nI i))] [] (LW c1 m1)) : Go (XL b Ln xs) (ML nm) QL 0 cn sn 523 [some (.ref sid), some (.ref 0), some (.ref 44), some (.int (nI i))] [] (LW c m) := by
  refine go_aload_n dL_law_523 rfl ?_
  obtain ⟨Q1, hE1, hq1⟩ := ag_worst c m hs
  refine go_callC (z := MX11_worst) (simC hs) dL_law_524 lL_65 sX11_worst hE1 rfl rfl rfl rfl (fit_law rfl rfl rfl rfl (by omega) (by omega)) rfl (fun v c1 h => ?_) (fun v c1 h => ?_)
  · obtain ⟨⟨r, rfl⟩, hcw, -⟩ := hq1 v c1 h
    exact ⟨hcw, rfl⟩
  obtain ⟨⟨r, rfl⟩, hcw, hE2⟩ := hq1 v c1 h
  refine go_aload_n dL_law_527 rfl ?_
  refine go_callM (z := MX12_worst) hcw hs dL_law_528 lL_69 sX12_worst hE2 rfl rfl rfl rfl (fit_law rfl rfl rfl rfl (show cn + MX11_worst.2.2.2.2.cells ≤ 590010 from Nat.add_le_add hcn (show MX11_worst.2.2.2.2.cells ≤ 10 from Nat.le_of_ble_eq_true rfl)) (show sn + MX11_worst.2.2.2.2.slots ≤ 7000010 from Nat.add_le_add hsn (show MX11_worst.2.2.2.2.slots ≤ 10 from Nat.le_of_ble_eq_true rfl))) rfl (fun v2 m1 h2 => ?_) (fun v2 m1 h2 => ?_)
  · obtain ⟨rfl, hsim⟩ := h2
    exact ⟨hsim, rfl⟩
  obtain ⟨rfl, hsim⟩ := h2
  refine go_icmp_eq 1111 dL_law_531 (by decide) (fun _ => ?_) (fun q => absurd rfl q)
  exact go_widen (Nat.add_le_add (Nat.add_le_add_left (show MX11_worst.2.2.2.2.cells ≤ 10 from Nat.le_of_ble_eq_true rfl) cn) (show MX12_worst.2.2.2.2.cells ≤ 10 from Nat.le_of_ble_eq_true rfl)) (Nat.add_le_add (Nat.add_le_add_left (show MX11_worst.2.2.2.2.slots ≤ 10 from Nat.le_of_ble_eq_true rfl) sn) (show MX12_worst.2.2.2.2.slots ≤ 10 from Nat.le_of_ble_eq_true rfl)) (k c1 m1 hsim)
set_option maxRecDepth 100000 in
theorem law_fate {nm : String} {b Ln : Nat} {xs : Nat → Int32} (i : Nat) (hi : i + 6 ≤ Ln) (hL : Ln ≤ 384) (c m : List AE) (hs : Sim c m) (cn sn : Nat) (hcn : cn ≤ 590000) (hsn : sn ≤ 7000000) (k : ∀ c1 m1, Sim c1 m1 → Go (XL b Ln xs) (ML nm) QL 0 (cn + 10 + 10) (sn + 10 + 10) 1111 [some (.ref sid), some (.ref 0), some (.ref 44), some (.int (nI i))] [] (LW c1 m1)) : Go (XL b Ln xs) (ML nm) QL 0 cn sn 536 [some (.ref sid), some (.ref 0), some (.ref 44), some (.int (nI i))] [] (LW c m) := by
  refine go_aload_n dL_law_536 rfl ?_
  refine go_aload_n dL_law_537 rfl ?_
  refine go_iload_n dL_law_538 rfl ?_
  refine go_iconst (1) dL_law_539 (by decide) ?_
  refine go_iadd dL_law_540 ?_
  refine go_sld dL_law_541 (vin_off (j := 1) (by omega) hL) ?_
  obtain ⟨Q1, hE1, hq1⟩ := ag_fate (xs (nI i + 1).toNatClampNeg) c m hs
  refine go_callC (z := MX11_fate) (simC hs) dL_law_542 lL_70 sX11_fate hE1 rfl rfl rfl rfl (fit_law rfl rfl rfl rfl (by omega) (by omega)) rfl (fun v c1 h => ?_) (fun v c1 h => ?_)
  · obtain ⟨⟨r, rfl⟩, hcw, -⟩ := hq1 v c1 h
    exact ⟨hcw, rfl⟩
  obtain ⟨⟨r, rfl⟩, hcw, hE2⟩ := hq1 v c1 h
  refine go_aload_n dL_law_545 rfl ?_
  refine go_aload_n dL_law_546 rfl ?_
  refine go_iload_n dL_law_547 rfl ?_
  refine go_iconst (1) dL_law_548 (by decide) ?_
  refine go_iadd dL_law_549 ?_
  refine go_sld dL_law_550 (vin_off (j := 1) (by omega) hL) ?_
  refine go_callM (z := MX12_fate) hcw hs dL_law_551 lL_73 sX12_fate hE2 rfl rfl rfl rfl (fit_law rfl rfl rfl rfl (show cn + MX11_fate.2.2.2.2.cells ≤ 590010 from Nat.add_le_add hcn (show MX11_fate.2.2.2.2.cells ≤ 10 from Nat.le_of_ble_eq_true rfl)) (show sn + MX11_fate.2.2.2.2.slots ≤ 7000010 from Nat.add_le_add hsn (show MX11_fate.2.2.2.2.slots ≤ 10 from Nat.le_of_ble_eq_true rfl))) rfl (fun v2 m1 h2 => ?_) (fun v2 m1 h2 => ?_)
  · obtain ⟨rfl, hsim⟩ := h2
    exact ⟨hsim, rfl⟩
  obtain ⟨rfl, hsim⟩ := h2
  refine go_icmp_eq 1111 dL_law_554 (by decide) (fun _ => ?_) (fun q => absurd rfl q)
  exact go_widen (Nat.add_le_add (Nat.add_le_add_left (show MX11_fate.2.2.2.2.cells ≤ 10 from Nat.le_of_ble_eq_true rfl) cn) (show MX12_fate.2.2.2.2.cells ≤ 10 from Nat.le_of_ble_eq_true rfl)) (Nat.add_le_add (Nat.add_le_add_left (show MX11_fate.2.2.2.2.slots ≤ 10 from Nat.le_of_ble_eq_true rfl) sn) (show MX12_fate.2.2.2.2.slots ≤ 10 from Nat.le_of_ble_eq_true rfl)) (k c1 m1 hsim)
set_option maxRecDepth 100000 in
theorem law_order {nm : String} {b Ln : Nat} {xs : Nat → Int32} (i : Nat) (hi : i + 6 ≤ Ln) (hL : Ln ≤ 384) (c m : List AE) (hs : Sim c m) (cn sn : Nat) (hcn : cn ≤ 590000) (hsn : sn ≤ 7000000) (k : ∀ c1 m1, Sim c1 m1 → Go (XL b Ln xs) (ML nm) QL 0 (cn + 10 + 10) (sn + 10 + 10) 1111 [some (.ref sid), some (.ref 0), some (.ref 44), some (.int (nI i))] [] (LW c1 m1)) : Go (XL b Ln xs) (ML nm) QL 0 cn sn 559 [some (.ref sid), some (.ref 0), some (.ref 44), some (.int (nI i))] [] (LW c m) := by
  refine go_aload_n dL_law_559 rfl ?_
  refine go_aload_n dL_law_560 rfl ?_
  refine go_iload_n dL_law_561 rfl ?_
  refine go_iconst (1) dL_law_562 (by decide) ?_
  refine go_iadd dL_law_563 ?_
  refine go_sld dL_law_564 (vin_off (j := 1) (by omega) hL) ?_
  obtain ⟨Q1, hE1, hq1⟩ := ag_order (xs (nI i + 1).toNatClampNeg) c m hs
  refine go_callC (z := MX11_order) (simC hs) dL_law_565 lL_74 sX11_order hE1 rfl rfl rfl rfl (fit_law rfl rfl rfl rfl (by omega) (by omega)) rfl (fun v c1 h => ?_) (fun v c1 h => ?_)
  · obtain ⟨⟨r, rfl⟩, hcw, -⟩ := hq1 v c1 h
    exact ⟨hcw, rfl⟩
  obtain ⟨⟨r, rfl⟩, hcw, hE2⟩ := hq1 v c1 h
  refine go_aload_n dL_law_568 rfl ?_
  refine go_aload_n dL_law_569 rfl ?_
  refine go_iload_n dL_law_570 rfl ?_
  refine go_iconst (1) dL_law_571 (by decide) ?_
  refine go_iadd dL_law_572 ?_
  refine go_sld dL_law_573 (vin_off (j := 1) (by omega) hL) ?_
  refine go_callM (z := MX12_order) hcw hs dL_law_574 lL_77 sX12_order hE2 rfl rfl rfl rfl (fit_law rfl rfl rfl rfl (show cn + MX11_order.2.2.2.2.cells ≤ 590010 from Nat.add_le_add hcn (show MX11_order.2.2.2.2.cells ≤ 10 from Nat.le_of_ble_eq_true rfl)) (show sn + MX11_order.2.2.2.2.slots ≤ 7000010 from Nat.add_le_add hsn (show MX11_order.2.2.2.2.slots ≤ 10 from Nat.le_of_ble_eq_true rfl))) rfl (fun v2 m1 h2 => ?_) (fun v2 m1 h2 => ?_)
  · obtain ⟨rfl, hsim⟩ := h2
    exact ⟨hsim, rfl⟩
  obtain ⟨rfl, hsim⟩ := h2
  refine go_icmp_eq 1111 dL_law_577 (by decide) (fun _ => ?_) (fun q => absurd rfl q)
  exact go_widen (Nat.add_le_add (Nat.add_le_add_left (show MX11_order.2.2.2.2.cells ≤ 10 from Nat.le_of_ble_eq_true rfl) cn) (show MX12_order.2.2.2.2.cells ≤ 10 from Nat.le_of_ble_eq_true rfl)) (Nat.add_le_add (Nat.add_le_add_left (show MX11_order.2.2.2.2.slots ≤ 10 from Nat.le_of_ble_eq_true rfl) sn) (show MX12_order.2.2.2.2.slots ≤ 10 from Nat.le_of_ble_eq_true rfl)) (k c1 m1 hsim)
set_option maxRecDepth 100000 in
theorem law_best {nm : String} {b Ln : Nat} {xs : Nat → Int32} (i : Nat) (hi : i + 6 ≤ Ln) (hL : Ln ≤ 384) (c m : List AE) (hs : Sim c m) (cn sn : Nat) (hcn : cn ≤ 590000) (hsn : sn ≤ 7000000) (k : ∀ c1 m1, Sim c1 m1 → Go (XL b Ln xs) (ML nm) QL 0 (cn + 10 + 10) (sn + 10 + 10) 1111 [some (.ref sid), some (.ref 0), some (.ref 44), some (.int (nI i))] [] (LW c1 m1)) : Go (XL b Ln xs) (ML nm) QL 0 cn sn 582 [some (.ref sid), some (.ref 0), some (.ref 44), some (.int (nI i))] [] (LW c m) := by
  refine go_aload_n dL_law_582 rfl ?_
  refine go_aload_n dL_law_583 rfl ?_
  refine go_iload_n dL_law_584 rfl ?_
  refine go_iconst (1) dL_law_585 (by decide) ?_
  refine go_iadd dL_law_586 ?_
  refine go_sld dL_law_587 (vin_off (j := 1) (by omega) hL) ?_
  obtain ⟨Q1, hE1, hq1⟩ := ag_best (xs (nI i + 1).toNatClampNeg) c m hs
  refine go_callC (z := MX11_best) (simC hs) dL_law_588 lL_78 sX11_best hE1 rfl rfl rfl rfl (fit_law rfl rfl rfl rfl (by omega) (by omega)) rfl (fun v c1 h => ?_) (fun v c1 h => ?_)
  · obtain ⟨⟨r, rfl⟩, hcw, -⟩ := hq1 v c1 h
    exact ⟨hcw, rfl⟩
  obtain ⟨⟨r, rfl⟩, hcw, hE2⟩ := hq1 v c1 h
  refine go_aload_n dL_law_591 rfl ?_
  refine go_aload_n dL_law_592 rfl ?_
  refine go_iload_n dL_law_593 rfl ?_
  refine go_iconst (1) dL_law_594 (by decide) ?_
  refine go_iadd dL_law_595 ?_
  refine go_sld dL_law_596 (vin_off (j := 1) (by omega) hL) ?_
  refine go_callM (z := MX12_best) hcw hs dL_law_597 lL_81 sX12_best hE2 rfl rfl rfl rfl (fit_law rfl rfl rfl rfl (show cn + MX11_best.2.2.2.2.cells ≤ 590010 from Nat.add_le_add hcn (show MX11_best.2.2.2.2.cells ≤ 10 from Nat.le_of_ble_eq_true rfl)) (show sn + MX11_best.2.2.2.2.slots ≤ 7000010 from Nat.add_le_add hsn (show MX11_best.2.2.2.2.slots ≤ 10 from Nat.le_of_ble_eq_true rfl))) rfl (fun v2 m1 h2 => ?_) (fun v2 m1 h2 => ?_)
  · obtain ⟨rfl, hsim⟩ := h2
    exact ⟨hsim, rfl⟩
  obtain ⟨rfl, hsim⟩ := h2
  refine go_lcmp dL_law_600 ?_
  refine go_if_eq 1111 dL_law_601 (by decide) (fun _ => ?_) (fun q => absurd ((lg_cmp_eq r r).mpr rfl) q)
  exact go_widen (Nat.add_le_add (Nat.add_le_add_left (show MX11_best.2.2.2.2.cells ≤ 10 from Nat.le_of_ble_eq_true rfl) cn) (show MX12_best.2.2.2.2.cells ≤ 10 from Nat.le_of_ble_eq_true rfl)) (Nat.add_le_add (Nat.add_le_add_left (show MX11_best.2.2.2.2.slots ≤ 10 from Nat.le_of_ble_eq_true rfl) sn) (show MX12_best.2.2.2.2.slots ≤ 10 from Nat.le_of_ble_eq_true rfl)) (k c1 m1 hsim)
set_option maxRecDepth 100000 in
theorem law_price {nm : String} {b Ln : Nat} {xs : Nat → Int32} (i : Nat) (hi : i + 6 ≤ Ln) (hL : Ln ≤ 384) (c m : List AE) (hs : Sim c m) (cn sn : Nat) (hcn : cn ≤ 590000) (hsn : sn ≤ 7000000) (k : ∀ c1 m1, Sim c1 m1 → Go (XL b Ln xs) (ML nm) QL 0 (cn + 10 + 10) (sn + 10 + 10) 1111 [some (.ref sid), some (.ref 0), some (.ref 44), some (.int (nI i))] [] (LW c1 m1)) : Go (XL b Ln xs) (ML nm) QL 0 cn sn 606 [some (.ref sid), some (.ref 0), some (.ref 44), some (.int (nI i))] [] (LW c m) := by
  refine go_aload_n dL_law_606 rfl ?_
  obtain ⟨Q1, hE1, hq1⟩ := ag_price c m hs
  refine go_callC (z := MX11_price) (simC hs) dL_law_607 lL_82 sX11_price hE1 rfl rfl rfl rfl (fit_law rfl rfl rfl rfl (by omega) (by omega)) rfl (fun v c1 h => ?_) (fun v c1 h => ?_)
  · obtain ⟨⟨r, rfl⟩, hcw, -⟩ := hq1 v c1 h
    exact ⟨hcw, rfl⟩
  obtain ⟨⟨r, rfl⟩, hcw, hE2⟩ := hq1 v c1 h
  refine go_aload_n dL_law_610 rfl ?_
  refine go_callM (z := MX12_price) hcw hs dL_law_611 lL_85 sX12_price hE2 rfl rfl rfl rfl (fit_law rfl rfl rfl rfl (show cn + MX11_price.2.2.2.2.cells ≤ 590010 from Nat.add_le_add hcn (show MX11_price.2.2.2.2.cells ≤ 10 from Nat.le_of_ble_eq_true rfl)) (show sn + MX11_price.2.2.2.2.slots ≤ 7000010 from Nat.add_le_add hsn (show MX11_price.2.2.2.2.slots ≤ 10 from Nat.le_of_ble_eq_true rfl))) rfl (fun v2 m1 h2 => ?_) (fun v2 m1 h2 => ?_)
  · obtain ⟨rfl, hsim⟩ := h2
    exact ⟨hsim, rfl⟩
  obtain ⟨rfl, hsim⟩ := h2
  refine go_icmp_eq 1111 dL_law_614 (by decide) (fun _ => ?_) (fun q => absurd rfl q)
  exact go_widen (Nat.add_le_add (Nat.add_le_add_left (show MX11_price.2.2.2.2.cells ≤ 10 from Nat.le_of_ble_eq_true rfl) cn) (show MX12_price.2.2.2.2.cells ≤ 10 from Nat.le_of_ble_eq_true rfl)) (Nat.add_le_add (Nat.add_le_add_left (show MX11_price.2.2.2.2.slots ≤ 10 from Nat.le_of_ble_eq_true rfl) sn) (show MX12_price.2.2.2.2.slots ≤ 10 from Nat.le_of_ble_eq_true rfl)) (k c1 m1 hsim)
set_option maxRecDepth 100000 in
theorem law_rule {nm : String} {b Ln : Nat} {xs : Nat → Int32} (i : Nat) (hi : i + 6 ≤ Ln) (hL : Ln ≤ 384) (c m : List AE) (hs : Sim c m) (cn sn : Nat) (hcn : cn ≤ 590000) (hsn : sn ≤ 7000000) (k : ∀ c1 m1, Sim c1 m1 → Go (XL b Ln xs) (ML nm) QL 0 (cn + 10 + 10) (sn + 10 + 10) 1111 [some (.ref sid), some (.ref 0), some (.ref 44), some (.int (nI i))] [] (LW c1 m1)) : Go (XL b Ln xs) (ML nm) QL 0 cn sn 619 [some (.ref sid), some (.ref 0), some (.ref 44), some (.int (nI i))] [] (LW c m) := by
  refine go_aload_n dL_law_619 rfl ?_
  refine go_aload_n dL_law_620 rfl ?_
  refine go_iload_n dL_law_621 rfl ?_
  refine go_iconst (1) dL_law_622 (by decide) ?_
  refine go_iadd dL_law_623 ?_
  refine go_sld dL_law_624 (vin_off (j := 1) (by omega) hL) ?_
  obtain ⟨Q1, hE1, hq1⟩ := ag_rule (xs (nI i + 1).toNatClampNeg) c m hs
  refine go_callC (z := MX11_rule) (simC hs) dL_law_625 lL_86 sX11_rule hE1 rfl rfl rfl rfl (fit_law rfl rfl rfl rfl (by omega) (by omega)) rfl (fun v c1 h => ?_) (fun v c1 h => ?_)
  · obtain ⟨⟨r, rfl⟩, hcw, -⟩ := hq1 v c1 h
    exact ⟨hcw, rfl⟩
  obtain ⟨⟨r, rfl⟩, hcw, hE2⟩ := hq1 v c1 h
  refine go_aload_n dL_law_628 rfl ?_
  refine go_aload_n dL_law_629 rfl ?_
  refine go_iload_n dL_law_630 rfl ?_
  refine go_iconst (1) dL_law_631 (by decide) ?_
  refine go_iadd dL_law_632 ?_
  refine go_sld dL_law_633 (vin_off (j := 1) (by omega) hL) ?_
  refine go_callM (z := MX12_rule) hcw hs dL_law_634 lL_89 sX12_rule hE2 rfl rfl rfl rfl (fit_law rfl rfl rfl rfl (show cn + MX11_rule.2.2.2.2.cells ≤ 590010 from Nat.add_le_add hcn (show MX11_rule.2.2.2.2.cells ≤ 10 from Nat.le_of_ble_eq_true rfl)) (show sn + MX11_rule.2.2.2.2.slots ≤ 7000010 from Nat.add_le_add hsn (show MX11_rule.2.2.2.2.slots ≤ 10 from Nat.le_of_ble_eq_true rfl))) rfl (fun v2 m1 h2 => ?_) (fun v2 m1 h2 => ?_)
  · obtain ⟨rfl, hsim⟩ := h2
    exact ⟨hsim, rfl⟩
  obtain ⟨rfl, hsim⟩ := h2
  refine go_icmp_eq 1111 dL_law_637 (by decide) (fun _ => ?_) (fun q => absurd rfl q)
  exact go_widen (Nat.add_le_add (Nat.add_le_add_left (show MX11_rule.2.2.2.2.cells ≤ 10 from Nat.le_of_ble_eq_true rfl) cn) (show MX12_rule.2.2.2.2.cells ≤ 10 from Nat.le_of_ble_eq_true rfl)) (Nat.add_le_add (Nat.add_le_add_left (show MX11_rule.2.2.2.2.slots ≤ 10 from Nat.le_of_ble_eq_true rfl) sn) (show MX12_rule.2.2.2.2.slots ≤ 10 from Nat.le_of_ble_eq_true rfl)) (k c1 m1 hsim)
set_option maxRecDepth 100000 in
theorem law_chain {nm : String} {b Ln : Nat} {xs : Nat → Int32} (i : Nat) (hi : i + 6 ≤ Ln) (hL : Ln ≤ 384) (c m : List AE) (hs : Sim c m) (cn sn : Nat) (hcn : cn ≤ 590000) (hsn : sn ≤ 7000000) (k : ∀ c1 m1, Sim c1 m1 → Go (XL b Ln xs) (ML nm) QL 0 (cn + 10 + 10) (sn + 10 + 10) 1111 [some (.ref sid), some (.ref 0), some (.ref 44), some (.int (nI i))] [] (LW c1 m1)) : Go (XL b Ln xs) (ML nm) QL 0 cn sn 642 [some (.ref sid), some (.ref 0), some (.ref 44), some (.int (nI i))] [] (LW c m) := by
  refine go_aload_n dL_law_642 rfl ?_
  refine go_aload_n dL_law_643 rfl ?_
  refine go_iload_n dL_law_644 rfl ?_
  refine go_iconst (1) dL_law_645 (by decide) ?_
  refine go_iadd dL_law_646 ?_
  refine go_sld dL_law_647 (vin_off (j := 1) (by omega) hL) ?_
  obtain ⟨Q1, hE1, hq1⟩ := ag_chain (xs (nI i + 1).toNatClampNeg) c m hs
  refine go_callC (z := MX11_chain) (simC hs) dL_law_648 lL_90 sX11_chain hE1 rfl rfl rfl rfl (fit_law rfl rfl rfl rfl (by omega) (by omega)) rfl (fun v c1 h => ?_) (fun v c1 h => ?_)
  · obtain ⟨⟨r, rfl⟩, hcw, -⟩ := hq1 v c1 h
    exact ⟨hcw, rfl⟩
  obtain ⟨⟨r, rfl⟩, hcw, hE2⟩ := hq1 v c1 h
  refine go_aload_n dL_law_651 rfl ?_
  refine go_aload_n dL_law_652 rfl ?_
  refine go_iload_n dL_law_653 rfl ?_
  refine go_iconst (1) dL_law_654 (by decide) ?_
  refine go_iadd dL_law_655 ?_
  refine go_sld dL_law_656 (vin_off (j := 1) (by omega) hL) ?_
  refine go_callM (z := MX12_chain) hcw hs dL_law_657 lL_93 sX12_chain hE2 rfl rfl rfl rfl (fit_law rfl rfl rfl rfl (show cn + MX11_chain.2.2.2.2.cells ≤ 590010 from Nat.add_le_add hcn (show MX11_chain.2.2.2.2.cells ≤ 10 from Nat.le_of_ble_eq_true rfl)) (show sn + MX11_chain.2.2.2.2.slots ≤ 7000010 from Nat.add_le_add hsn (show MX11_chain.2.2.2.2.slots ≤ 10 from Nat.le_of_ble_eq_true rfl))) rfl (fun v2 m1 h2 => ?_) (fun v2 m1 h2 => ?_)
  · obtain ⟨rfl, hsim⟩ := h2
    exact ⟨hsim, rfl⟩
  obtain ⟨rfl, hsim⟩ := h2
  refine go_icmp_eq 1111 dL_law_660 (by decide) (fun _ => ?_) (fun q => absurd rfl q)
  exact go_widen (Nat.add_le_add (Nat.add_le_add_left (show MX11_chain.2.2.2.2.cells ≤ 10 from Nat.le_of_ble_eq_true rfl) cn) (show MX12_chain.2.2.2.2.cells ≤ 10 from Nat.le_of_ble_eq_true rfl)) (Nat.add_le_add (Nat.add_le_add_left (show MX11_chain.2.2.2.2.slots ≤ 10 from Nat.le_of_ble_eq_true rfl) sn) (show MX12_chain.2.2.2.2.slots ≤ 10 from Nat.le_of_ble_eq_true rfl)) (k c1 m1 hsim)
set_option maxRecDepth 100000 in
theorem law_seen {nm : String} {b Ln : Nat} {xs : Nat → Int32} (i : Nat) (hi : i + 6 ≤ Ln) (hL : Ln ≤ 384) (c m : List AE) (hs : Sim c m) (cn sn : Nat) (hcn : cn ≤ 590000) (hsn : sn ≤ 7000000) (k : ∀ c1 m1, Sim c1 m1 → Go (XL b Ln xs) (ML nm) QL 0 (cn + 10 + 10) (sn + 10 + 10) 1111 [some (.ref sid), some (.ref 0), some (.ref 44), some (.int (nI i))] [] (LW c1 m1)) : Go (XL b Ln xs) (ML nm) QL 0 cn sn 665 [some (.ref sid), some (.ref 0), some (.ref 44), some (.int (nI i))] [] (LW c m) := by
  refine go_aload_n dL_law_665 rfl ?_
  refine go_aload_n dL_law_666 rfl ?_
  refine go_iload_n dL_law_667 rfl ?_
  refine go_iconst (1) dL_law_668 (by decide) ?_
  refine go_iadd dL_law_669 ?_
  refine go_sld dL_law_670 (vin_off (j := 1) (by omega) hL) ?_
  refine go_aload_n dL_law_671 rfl ?_
  refine go_iload_n dL_law_672 rfl ?_
  refine go_iconst (2) dL_law_673 (by decide) ?_
  refine go_iadd dL_law_674 ?_
  refine go_sld dL_law_675 (vin_off (j := 2) (by omega) hL) ?_
  obtain ⟨Q1, hE1, hq1⟩ := ag_seen (xs (nI i + 1).toNatClampNeg) (xs (nI i + 2).toNatClampNeg) c m hs
  refine go_callC (z := MX11_seen) (simC hs) dL_law_676 lL_94 sX11_seen hE1 rfl rfl rfl rfl (fit_law rfl rfl rfl rfl (by omega) (by omega)) rfl (fun v c1 h => ?_) (fun v c1 h => ?_)
  · obtain ⟨⟨r, rfl⟩, hcw, -⟩ := hq1 v c1 h
    exact ⟨hcw, rfl⟩
  obtain ⟨⟨r, rfl⟩, hcw, hE2⟩ := hq1 v c1 h
  refine go_aload_n dL_law_679 rfl ?_
  refine go_aload_n dL_law_680 rfl ?_
  refine go_iload_n dL_law_681 rfl ?_
  refine go_iconst (1) dL_law_682 (by decide) ?_
  refine go_iadd dL_law_683 ?_
  refine go_sld dL_law_684 (vin_off (j := 1) (by omega) hL) ?_
  refine go_aload_n dL_law_685 rfl ?_
  refine go_iload_n dL_law_686 rfl ?_
  refine go_iconst (2) dL_law_687 (by decide) ?_
  refine go_iadd dL_law_688 ?_
  refine go_sld dL_law_689 (vin_off (j := 2) (by omega) hL) ?_
  refine go_callM (z := MX12_seen) hcw hs dL_law_690 lL_97 sX12_seen hE2 rfl rfl rfl rfl (fit_law rfl rfl rfl rfl (show cn + MX11_seen.2.2.2.2.cells ≤ 590010 from Nat.add_le_add hcn (show MX11_seen.2.2.2.2.cells ≤ 10 from Nat.le_of_ble_eq_true rfl)) (show sn + MX11_seen.2.2.2.2.slots ≤ 7000010 from Nat.add_le_add hsn (show MX11_seen.2.2.2.2.slots ≤ 10 from Nat.le_of_ble_eq_true rfl))) rfl (fun v2 m1 h2 => ?_) (fun v2 m1 h2 => ?_)
  · obtain ⟨rfl, hsim⟩ := h2
    exact ⟨hsim, rfl⟩
  obtain ⟨rfl, hsim⟩ := h2
  refine go_icmp_eq 1111 dL_law_693 (by decide) (fun _ => ?_) (fun q => absurd rfl q)
  exact go_widen (Nat.add_le_add (Nat.add_le_add_left (show MX11_seen.2.2.2.2.cells ≤ 10 from Nat.le_of_ble_eq_true rfl) cn) (show MX12_seen.2.2.2.2.cells ≤ 10 from Nat.le_of_ble_eq_true rfl)) (Nat.add_le_add (Nat.add_le_add_left (show MX11_seen.2.2.2.2.slots ≤ 10 from Nat.le_of_ble_eq_true rfl) sn) (show MX12_seen.2.2.2.2.slots ≤ 10 from Nat.le_of_ble_eq_true rfl)) (k c1 m1 hsim)
set_option maxRecDepth 100000 in
theorem law_forget {nm : String} {b Ln : Nat} {xs : Nat → Int32} (i : Nat) (hi : i + 6 ≤ Ln) (hL : Ln ≤ 384) (c m : List AE) (hs : Sim c m) (cn sn : Nat) (hcn : cn ≤ 590000) (hsn : sn ≤ 7000000) (k : ∀ c1 m1, Sim c1 m1 → Go (XL b Ln xs) (ML nm) QL 0 (cn + 10 + 10) (sn + 10 + 10) 1111 [some (.ref sid), some (.ref 0), some (.ref 44), some (.int (nI i))] [] (LW c1 m1)) : Go (XL b Ln xs) (ML nm) QL 0 cn sn 698 [some (.ref sid), some (.ref 0), some (.ref 44), some (.int (nI i))] [] (LW c m) := by
  refine go_aload_n dL_law_698 rfl ?_
  obtain ⟨Q1, hE1, hq1⟩ := ag_forget c m hs
  refine go_callC (z := MX11_forget) (simC hs) dL_law_699 lL_98 sX11_forget hE1 rfl rfl rfl rfl (fit_law rfl rfl rfl rfl (by omega) (by omega)) rfl (fun v c1 h => ?_) (fun v c1 h => ?_)
  · obtain ⟨⟨r, rfl⟩, hcw, -⟩ := hq1 v c1 h
    exact ⟨hcw, rfl⟩
  obtain ⟨⟨r, rfl⟩, hcw, hE2⟩ := hq1 v c1 h
  refine go_aload_n dL_law_702 rfl ?_
  refine go_callM (z := MX12_forget) hcw hs dL_law_703 lL_101 sX12_forget hE2 rfl rfl rfl rfl (fit_law rfl rfl rfl rfl (show cn + MX11_forget.2.2.2.2.cells ≤ 590010 from Nat.add_le_add hcn (show MX11_forget.2.2.2.2.cells ≤ 10 from Nat.le_of_ble_eq_true rfl)) (show sn + MX11_forget.2.2.2.2.slots ≤ 7000010 from Nat.add_le_add hsn (show MX11_forget.2.2.2.2.slots ≤ 10 from Nat.le_of_ble_eq_true rfl))) rfl (fun v2 m1 h2 => ?_) (fun v2 m1 h2 => ?_)
  · obtain ⟨rfl, hsim⟩ := h2
    exact ⟨hsim, rfl⟩
  obtain ⟨rfl, hsim⟩ := h2
  refine go_icmp_eq 1111 dL_law_706 (by decide) (fun _ => ?_) (fun q => absurd rfl q)
  exact go_widen (Nat.add_le_add (Nat.add_le_add_left (show MX11_forget.2.2.2.2.cells ≤ 10 from Nat.le_of_ble_eq_true rfl) cn) (show MX12_forget.2.2.2.2.cells ≤ 10 from Nat.le_of_ble_eq_true rfl)) (Nat.add_le_add (Nat.add_le_add_left (show MX11_forget.2.2.2.2.slots ≤ 10 from Nat.le_of_ble_eq_true rfl) sn) (show MX12_forget.2.2.2.2.slots ≤ 10 from Nat.le_of_ble_eq_true rfl)) (k c1 m1 hsim)
set_option maxRecDepth 100000 in
theorem law_read {nm : String} {b Ln : Nat} {xs : Nat → Int32} (i : Nat) (hi : i + 6 ≤ Ln) (hL : Ln ≤ 384) (c m : List AE) (hs : Sim c m) (cn sn : Nat) (hcn : cn ≤ 590000) (hsn : sn ≤ 7000000) (k : ∀ c1 m1, Sim c1 m1 → Go (XL b Ln xs) (ML nm) QL 0 (cn + 10 + 10) (sn + 10 + 10) 1111 [some (.ref sid), some (.ref 0), some (.ref 44), some (.int (nI i))] [] (LW c1 m1)) : Go (XL b Ln xs) (ML nm) QL 0 cn sn 711 [some (.ref sid), some (.ref 0), some (.ref 44), some (.int (nI i))] [] (LW c m) := by
  refine go_aload_n dL_law_711 rfl ?_
  refine go_aload_n dL_law_712 rfl ?_
  refine go_iload_n dL_law_713 rfl ?_
  refine go_iconst (1) dL_law_714 (by decide) ?_
  refine go_iadd dL_law_715 ?_
  refine go_sld dL_law_716 (vin_off (j := 1) (by omega) hL) ?_
  obtain ⟨Q1, hE1, hq1⟩ := ag_read (xs (nI i + 1).toNatClampNeg) c m hs
  refine go_callC (z := MX11_read) (simC hs) dL_law_717 lL_102 sX11_read hE1 rfl rfl rfl rfl (fit_law rfl rfl rfl rfl (by omega) (by omega)) rfl (fun v c1 h => ?_) (fun v c1 h => ?_)
  · obtain ⟨⟨r, rfl⟩, hcw, -⟩ := hq1 v c1 h
    exact ⟨hcw, rfl⟩
  obtain ⟨⟨r, rfl⟩, hcw, hE2⟩ := hq1 v c1 h
  refine go_aload_n dL_law_720 rfl ?_
  refine go_aload_n dL_law_721 rfl ?_
  refine go_iload_n dL_law_722 rfl ?_
  refine go_iconst (1) dL_law_723 (by decide) ?_
  refine go_iadd dL_law_724 ?_
  refine go_sld dL_law_725 (vin_off (j := 1) (by omega) hL) ?_
  refine go_callM (z := MX12_read) hcw hs dL_law_726 lL_105 sX12_read hE2 rfl rfl rfl rfl (fit_law rfl rfl rfl rfl (show cn + MX11_read.2.2.2.2.cells ≤ 590010 from Nat.add_le_add hcn (show MX11_read.2.2.2.2.cells ≤ 10 from Nat.le_of_ble_eq_true rfl)) (show sn + MX11_read.2.2.2.2.slots ≤ 7000010 from Nat.add_le_add hsn (show MX11_read.2.2.2.2.slots ≤ 10 from Nat.le_of_ble_eq_true rfl))) rfl (fun v2 m1 h2 => ?_) (fun v2 m1 h2 => ?_)
  · obtain ⟨rfl, hsim⟩ := h2
    exact ⟨hsim, rfl⟩
  obtain ⟨rfl, hsim⟩ := h2
  refine go_icmp_eq 1111 dL_law_729 (by decide) (fun _ => ?_) (fun q => absurd rfl q)
  exact go_widen (Nat.add_le_add (Nat.add_le_add_left (show MX11_read.2.2.2.2.cells ≤ 10 from Nat.le_of_ble_eq_true rfl) cn) (show MX12_read.2.2.2.2.cells ≤ 10 from Nat.le_of_ble_eq_true rfl)) (Nat.add_le_add (Nat.add_le_add_left (show MX11_read.2.2.2.2.slots ≤ 10 from Nat.le_of_ble_eq_true rfl) sn) (show MX12_read.2.2.2.2.slots ≤ 10 from Nat.le_of_ble_eq_true rfl)) (k c1 m1 hsim)
set_option maxRecDepth 100000 in
theorem law_bribes {nm : String} {b Ln : Nat} {xs : Nat → Int32} (i : Nat) (hi : i + 6 ≤ Ln) (hL : Ln ≤ 384) (c m : List AE) (hs : Sim c m) (cn sn : Nat) (hcn : cn ≤ 590000) (hsn : sn ≤ 7000000) (k : ∀ c1 m1, Sim c1 m1 → Go (XL b Ln xs) (ML nm) QL 0 (cn + 10 + 10) (sn + 10 + 10) 1111 [some (.ref sid), some (.ref 0), some (.ref 44), some (.int (nI i))] [] (LW c1 m1)) : Go (XL b Ln xs) (ML nm) QL 0 cn sn 734 [some (.ref sid), some (.ref 0), some (.ref 44), some (.int (nI i))] [] (LW c m) := by
  refine go_aload_n dL_law_734 rfl ?_
  obtain ⟨Q1, hE1, hq1⟩ := ag_bribes c m hs
  refine go_callC (z := MX11_bribes) (simC hs) dL_law_735 lL_106 sX11_bribes hE1 rfl rfl rfl rfl (fit_law rfl rfl rfl rfl (by omega) (by omega)) rfl (fun v c1 h => ?_) (fun v c1 h => ?_)
  · obtain ⟨⟨r, rfl⟩, hcw, -⟩ := hq1 v c1 h
    exact ⟨hcw, rfl⟩
  obtain ⟨⟨r, rfl⟩, hcw, hE2⟩ := hq1 v c1 h
  refine go_aload_n dL_law_738 rfl ?_
  refine go_callM (z := MX12_bribes) hcw hs dL_law_739 lL_109 sX12_bribes hE2 rfl rfl rfl rfl (fit_law rfl rfl rfl rfl (show cn + MX11_bribes.2.2.2.2.cells ≤ 590010 from Nat.add_le_add hcn (show MX11_bribes.2.2.2.2.cells ≤ 10 from Nat.le_of_ble_eq_true rfl)) (show sn + MX11_bribes.2.2.2.2.slots ≤ 7000010 from Nat.add_le_add hsn (show MX11_bribes.2.2.2.2.slots ≤ 10 from Nat.le_of_ble_eq_true rfl))) rfl (fun v2 m1 h2 => ?_) (fun v2 m1 h2 => ?_)
  · obtain ⟨rfl, hsim⟩ := h2
    exact ⟨hsim, rfl⟩
  obtain ⟨rfl, hsim⟩ := h2
  refine go_icmp_eq 1111 dL_law_742 (by decide) (fun _ => ?_) (fun q => absurd rfl q)
  exact go_widen (Nat.add_le_add (Nat.add_le_add_left (show MX11_bribes.2.2.2.2.cells ≤ 10 from Nat.le_of_ble_eq_true rfl) cn) (show MX12_bribes.2.2.2.2.cells ≤ 10 from Nat.le_of_ble_eq_true rfl)) (Nat.add_le_add (Nat.add_le_add_left (show MX11_bribes.2.2.2.2.slots ≤ 10 from Nat.le_of_ble_eq_true rfl) sn) (show MX12_bribes.2.2.2.2.slots ≤ 10 from Nat.le_of_ble_eq_true rfl)) (k c1 m1 hsim)
set_option maxRecDepth 100000 in
theorem law_kinds {nm : String} {b Ln : Nat} {xs : Nat → Int32} (i : Nat) (hi : i + 6 ≤ Ln) (hL : Ln ≤ 384) (c m : List AE) (hs : Sim c m) (cn sn : Nat) (hcn : cn ≤ 590000) (hsn : sn ≤ 7000000) (k : ∀ c1 m1, Sim c1 m1 → Go (XL b Ln xs) (ML nm) QL 0 (cn + 10 + 10) (sn + 10 + 10) 1111 [some (.ref sid), some (.ref 0), some (.ref 44), some (.int (nI i))] [] (LW c1 m1)) : Go (XL b Ln xs) (ML nm) QL 0 cn sn 747 [some (.ref sid), some (.ref 0), some (.ref 44), some (.int (nI i))] [] (LW c m) := by
  refine go_aload_n dL_law_747 rfl ?_
  refine go_aload_n dL_law_748 rfl ?_
  refine go_iload_n dL_law_749 rfl ?_
  refine go_iconst (1) dL_law_750 (by decide) ?_
  refine go_iadd dL_law_751 ?_
  refine go_sld dL_law_752 (vin_off (j := 1) (by omega) hL) ?_
  obtain ⟨Q1, hE1, hq1⟩ := ag_kinds (xs (nI i + 1).toNatClampNeg) c m hs
  refine go_callC (z := MX11_kinds) (simC hs) dL_law_753 lL_110 sX11_kinds hE1 rfl rfl rfl rfl (fit_law rfl rfl rfl rfl (by omega) (by omega)) rfl (fun v c1 h => ?_) (fun v c1 h => ?_)
  · obtain ⟨⟨r, rfl⟩, hcw, -⟩ := hq1 v c1 h
    exact ⟨hcw, rfl⟩
  obtain ⟨⟨r, rfl⟩, hcw, hE2⟩ := hq1 v c1 h
  refine go_aload_n dL_law_756 rfl ?_
  refine go_aload_n dL_law_757 rfl ?_
  refine go_iload_n dL_law_758 rfl ?_
  refine go_iconst (1) dL_law_759 (by decide) ?_
  refine go_iadd dL_law_760 ?_
  refine go_sld dL_law_761 (vin_off (j := 1) (by omega) hL) ?_
  refine go_callM (z := MX12_kinds) hcw hs dL_law_762 lL_113 sX12_kinds hE2 rfl rfl rfl rfl (fit_law rfl rfl rfl rfl (show cn + MX11_kinds.2.2.2.2.cells ≤ 590010 from Nat.add_le_add hcn (show MX11_kinds.2.2.2.2.cells ≤ 10 from Nat.le_of_ble_eq_true rfl)) (show sn + MX11_kinds.2.2.2.2.slots ≤ 7000010 from Nat.add_le_add hsn (show MX11_kinds.2.2.2.2.slots ≤ 10 from Nat.le_of_ble_eq_true rfl))) rfl (fun v2 m1 h2 => ?_) (fun v2 m1 h2 => ?_)
  · obtain ⟨rfl, hsim⟩ := h2
    exact ⟨hsim, rfl⟩
  obtain ⟨rfl, hsim⟩ := h2
  refine go_icmp_eq 1111 dL_law_765 (by decide) (fun _ => ?_) (fun q => absurd rfl q)
  exact go_widen (Nat.add_le_add (Nat.add_le_add_left (show MX11_kinds.2.2.2.2.cells ≤ 10 from Nat.le_of_ble_eq_true rfl) cn) (show MX12_kinds.2.2.2.2.cells ≤ 10 from Nat.le_of_ble_eq_true rfl)) (Nat.add_le_add (Nat.add_le_add_left (show MX11_kinds.2.2.2.2.slots ≤ 10 from Nat.le_of_ble_eq_true rfl) sn) (show MX12_kinds.2.2.2.2.slots ≤ 10 from Nat.le_of_ble_eq_true rfl)) (k c1 m1 hsim)
set_option maxRecDepth 100000 in
theorem law_ask {nm : String} {b Ln : Nat} {xs : Nat → Int32} (i : Nat) (hi : i + 6 ≤ Ln) (hL : Ln ≤ 384) (c m : List AE) (hs : Sim c m) (cn sn : Nat) (hcn : cn ≤ 590000) (hsn : sn ≤ 7000000) (k : ∀ c1 m1, Sim c1 m1 → Go (XL b Ln xs) (ML nm) QL 0 (cn + 10 + 10) (sn + 10 + 10) 1111 [some (.ref sid), some (.ref 0), some (.ref 44), some (.int (nI i))] [] (LW c1 m1)) : Go (XL b Ln xs) (ML nm) QL 0 cn sn 770 [some (.ref sid), some (.ref 0), some (.ref 44), some (.int (nI i))] [] (LW c m) := by
  refine go_aload_n dL_law_770 rfl ?_
  obtain ⟨Q1, hE1, hq1⟩ := ag_ask c m hs
  refine go_callC (z := MX11_ask) (simC hs) dL_law_771 lL_114 sX11_ask hE1 rfl rfl rfl rfl (fit_law rfl rfl rfl rfl (by omega) (by omega)) rfl (fun v c1 h => ?_) (fun v c1 h => ?_)
  · obtain ⟨⟨r, rfl⟩, hcw, -⟩ := hq1 v c1 h
    exact ⟨hcw, rfl⟩
  obtain ⟨⟨r, rfl⟩, hcw, hE2⟩ := hq1 v c1 h
  refine go_aload_n dL_law_774 rfl ?_
  refine go_callM (z := MX12_ask) hcw hs dL_law_775 lL_117 sX12_ask hE2 rfl rfl rfl rfl (fit_law rfl rfl rfl rfl (show cn + MX11_ask.2.2.2.2.cells ≤ 590010 from Nat.add_le_add hcn (show MX11_ask.2.2.2.2.cells ≤ 10 from Nat.le_of_ble_eq_true rfl)) (show sn + MX11_ask.2.2.2.2.slots ≤ 7000010 from Nat.add_le_add hsn (show MX11_ask.2.2.2.2.slots ≤ 10 from Nat.le_of_ble_eq_true rfl))) rfl (fun v2 m1 h2 => ?_) (fun v2 m1 h2 => ?_)
  · obtain ⟨rfl, hsim⟩ := h2
    exact ⟨hsim, rfl⟩
  obtain ⟨rfl, hsim⟩ := h2
  refine go_icmp_eq 1111 dL_law_778 (by decide) (fun _ => ?_) (fun q => absurd rfl q)
  exact go_widen (Nat.add_le_add (Nat.add_le_add_left (show MX11_ask.2.2.2.2.cells ≤ 10 from Nat.le_of_ble_eq_true rfl) cn) (show MX12_ask.2.2.2.2.cells ≤ 10 from Nat.le_of_ble_eq_true rfl)) (Nat.add_le_add (Nat.add_le_add_left (show MX11_ask.2.2.2.2.slots ≤ 10 from Nat.le_of_ble_eq_true rfl) sn) (show MX12_ask.2.2.2.2.slots ≤ 10 from Nat.le_of_ble_eq_true rfl)) (k c1 m1 hsim)
set_option maxRecDepth 100000 in
theorem law_gaols {nm : String} {b Ln : Nat} {xs : Nat → Int32} (i : Nat) (hi : i + 6 ≤ Ln) (hL : Ln ≤ 384) (c m : List AE) (hs : Sim c m) (cn sn : Nat) (hcn : cn ≤ 590000) (hsn : sn ≤ 7000000) (k : ∀ c1 m1, Sim c1 m1 → Go (XL b Ln xs) (ML nm) QL 0 (cn + 10 + 10) (sn + 10 + 10) 1111 [some (.ref sid), some (.ref 0), some (.ref 44), some (.int (nI i))] [] (LW c1 m1)) : Go (XL b Ln xs) (ML nm) QL 0 cn sn 783 [some (.ref sid), some (.ref 0), some (.ref 44), some (.int (nI i))] [] (LW c m) := by
  refine go_aload_n dL_law_783 rfl ?_
  refine go_aload_n dL_law_784 rfl ?_
  refine go_iload_n dL_law_785 rfl ?_
  refine go_iconst (1) dL_law_786 (by decide) ?_
  refine go_iadd dL_law_787 ?_
  refine go_sld dL_law_788 (vin_off (j := 1) (by omega) hL) ?_
  refine go_aload_n dL_law_789 rfl ?_
  refine go_iload_n dL_law_790 rfl ?_
  refine go_iconst (2) dL_law_791 (by decide) ?_
  refine go_iadd dL_law_792 ?_
  refine go_sld dL_law_793 (vin_off (j := 2) (by omega) hL) ?_
  refine go_aload_n dL_law_794 rfl ?_
  refine go_iload_n dL_law_795 rfl ?_
  refine go_iconst (3) dL_law_796 (by decide) ?_
  refine go_iadd dL_law_797 ?_
  refine go_sld dL_law_798 (vin_off (j := 3) (by omega) hL) ?_
  obtain ⟨Q1, hE1, hq1⟩ := ag_gaols (xs (nI i + 1).toNatClampNeg) (xs (nI i + 2).toNatClampNeg) (xs (nI i + 3).toNatClampNeg) c m hs
  refine go_callC (z := MX11_gaols) (simC hs) dL_law_799 lL_118 sX11_gaols hE1 rfl rfl rfl rfl (fit_law rfl rfl rfl rfl (by omega) (by omega)) rfl (fun v c1 h => ?_) (fun v c1 h => ?_)
  · obtain ⟨⟨r, rfl⟩, hcw, -⟩ := hq1 v c1 h
    exact ⟨hcw, rfl⟩
  obtain ⟨⟨r, rfl⟩, hcw, hE2⟩ := hq1 v c1 h
  refine go_aload_n dL_law_802 rfl ?_
  refine go_aload_n dL_law_803 rfl ?_
  refine go_iload_n dL_law_804 rfl ?_
  refine go_iconst (1) dL_law_805 (by decide) ?_
  refine go_iadd dL_law_806 ?_
  refine go_sld dL_law_807 (vin_off (j := 1) (by omega) hL) ?_
  refine go_aload_n dL_law_808 rfl ?_
  refine go_iload_n dL_law_809 rfl ?_
  refine go_iconst (2) dL_law_810 (by decide) ?_
  refine go_iadd dL_law_811 ?_
  refine go_sld dL_law_812 (vin_off (j := 2) (by omega) hL) ?_
  refine go_aload_n dL_law_813 rfl ?_
  refine go_iload_n dL_law_814 rfl ?_
  refine go_iconst (3) dL_law_815 (by decide) ?_
  refine go_iadd dL_law_816 ?_
  refine go_sld dL_law_817 (vin_off (j := 3) (by omega) hL) ?_
  refine go_callM (z := MX12_gaols) hcw hs dL_law_818 lL_122 sX12_gaols hE2 rfl rfl rfl rfl (fit_law rfl rfl rfl rfl (show cn + MX11_gaols.2.2.2.2.cells ≤ 590010 from Nat.add_le_add hcn (show MX11_gaols.2.2.2.2.cells ≤ 10 from Nat.le_of_ble_eq_true rfl)) (show sn + MX11_gaols.2.2.2.2.slots ≤ 7000010 from Nat.add_le_add hsn (show MX11_gaols.2.2.2.2.slots ≤ 10 from Nat.le_of_ble_eq_true rfl))) rfl (fun v2 m1 h2 => ?_) (fun v2 m1 h2 => ?_)
  · obtain ⟨rfl, hsim⟩ := h2
    exact ⟨hsim, rfl⟩
  obtain ⟨rfl, hsim⟩ := h2
  refine go_icmp_eq 1111 dL_law_821 (by decide) (fun _ => ?_) (fun q => absurd rfl q)
  exact go_widen (Nat.add_le_add (Nat.add_le_add_left (show MX11_gaols.2.2.2.2.cells ≤ 10 from Nat.le_of_ble_eq_true rfl) cn) (show MX12_gaols.2.2.2.2.cells ≤ 10 from Nat.le_of_ble_eq_true rfl)) (Nat.add_le_add (Nat.add_le_add_left (show MX11_gaols.2.2.2.2.slots ≤ 10 from Nat.le_of_ble_eq_true rfl) sn) (show MX12_gaols.2.2.2.2.slots ≤ 10 from Nat.le_of_ble_eq_true rfl)) (k c1 m1 hsim)
set_option maxRecDepth 100000 in
theorem law_sheet {nm : String} {b Ln : Nat} {xs : Nat → Int32} (i : Nat) (hi : i + 6 ≤ Ln) (hL : Ln ≤ 384) (c m : List AE) (hs : Sim c m) (cn sn : Nat) (hcn : cn ≤ 590000) (hsn : sn ≤ 7000000) (k : ∀ c1 m1, Sim c1 m1 → Go (XL b Ln xs) (ML nm) QL 0 (cn + 10 + 10) (sn + 10 + 10) 1111 [some (.ref sid), some (.ref 0), some (.ref 44), some (.int (nI i))] [] (LW c1 m1)) : Go (XL b Ln xs) (ML nm) QL 0 cn sn 826 [some (.ref sid), some (.ref 0), some (.ref 44), some (.int (nI i))] [] (LW c m) := by
  refine go_aload_n dL_law_826 rfl ?_
  refine go_aload_n dL_law_827 rfl ?_
  refine go_iload_n dL_law_828 rfl ?_
  refine go_iconst (1) dL_law_829 (by decide) ?_
  refine go_iadd dL_law_830 ?_
  refine go_sld dL_law_831 (vin_off (j := 1) (by omega) hL) ?_
  refine go_aload_n dL_law_832 rfl ?_
  refine go_iload_n dL_law_833 rfl ?_
  refine go_iconst (2) dL_law_834 (by decide) ?_
  refine go_iadd dL_law_835 ?_
  refine go_sld dL_law_836 (vin_off (j := 2) (by omega) hL) ?_
  refine go_aload_n dL_law_837 rfl ?_
  refine go_iload_n dL_law_838 rfl ?_
  refine go_iconst (3) dL_law_839 (by decide) ?_
  refine go_iadd dL_law_840 ?_
  refine go_sld dL_law_841 (vin_off (j := 3) (by omega) hL) ?_
  obtain ⟨Q1, hE1, hq1⟩ := ag_sheet (xs (nI i + 1).toNatClampNeg) (xs (nI i + 2).toNatClampNeg) (xs (nI i + 3).toNatClampNeg) c m hs
  refine go_callC (z := MX11_sheet) (simC hs) dL_law_842 lL_123 sX11_sheet hE1 rfl rfl rfl rfl (fit_law rfl rfl rfl rfl (by omega) (by omega)) rfl (fun v c1 h => ?_) (fun v c1 h => ?_)
  · obtain ⟨⟨r, rfl⟩, hcw, -⟩ := hq1 v c1 h
    exact ⟨hcw, rfl⟩
  obtain ⟨⟨r, rfl⟩, hcw, hE2⟩ := hq1 v c1 h
  refine go_aload_n dL_law_845 rfl ?_
  refine go_aload_n dL_law_846 rfl ?_
  refine go_iload_n dL_law_847 rfl ?_
  refine go_iconst (1) dL_law_848 (by decide) ?_
  refine go_iadd dL_law_849 ?_
  refine go_sld dL_law_850 (vin_off (j := 1) (by omega) hL) ?_
  refine go_aload_n dL_law_851 rfl ?_
  refine go_iload_n dL_law_852 rfl ?_
  refine go_iconst (2) dL_law_853 (by decide) ?_
  refine go_iadd dL_law_854 ?_
  refine go_sld dL_law_855 (vin_off (j := 2) (by omega) hL) ?_
  refine go_aload_n dL_law_856 rfl ?_
  refine go_iload_n dL_law_857 rfl ?_
  refine go_iconst (3) dL_law_858 (by decide) ?_
  refine go_iadd dL_law_859 ?_
  refine go_sld dL_law_860 (vin_off (j := 3) (by omega) hL) ?_
  refine go_callM (z := MX12_sheet) hcw hs dL_law_861 lL_126 sX12_sheet hE2 rfl rfl rfl rfl (fit_law rfl rfl rfl rfl (show cn + MX11_sheet.2.2.2.2.cells ≤ 590010 from Nat.add_le_add hcn (show MX11_sheet.2.2.2.2.cells ≤ 10 from Nat.le_of_ble_eq_true rfl)) (show sn + MX11_sheet.2.2.2.2.slots ≤ 7000010 from Nat.add_le_add hsn (show MX11_sheet.2.2.2.2.slots ≤ 10 from Nat.le_of_ble_eq_true rfl))) rfl (fun v2 m1 h2 => ?_) (fun v2 m1 h2 => ?_)
  · obtain ⟨rfl, hsim⟩ := h2
    exact ⟨hsim, rfl⟩
  obtain ⟨rfl, hsim⟩ := h2
  refine go_icmp_eq 1111 dL_law_864 (by decide) (fun _ => ?_) (fun q => absurd rfl q)
  exact go_widen (Nat.add_le_add (Nat.add_le_add_left (show MX11_sheet.2.2.2.2.cells ≤ 10 from Nat.le_of_ble_eq_true rfl) cn) (show MX12_sheet.2.2.2.2.cells ≤ 10 from Nat.le_of_ble_eq_true rfl)) (Nat.add_le_add (Nat.add_le_add_left (show MX11_sheet.2.2.2.2.slots ≤ 10 from Nat.le_of_ble_eq_true rfl) sn) (show MX12_sheet.2.2.2.2.slots ≤ 10 from Nat.le_of_ble_eq_true rfl)) (k c1 m1 hsim)
set_option maxRecDepth 100000 in
theorem law_lose {nm : String} {b Ln : Nat} {xs : Nat → Int32} (i : Nat) (hi : i + 6 ≤ Ln) (hL : Ln ≤ 384) (c m : List AE) (hs : Sim c m) (cn sn : Nat) (hcn : cn ≤ 590000) (hsn : sn ≤ 7000000) (k : ∀ c1 m1, Sim c1 m1 → Go (XL b Ln xs) (ML nm) QL 0 (cn + 10 + 10) (sn + 10 + 10) 1111 [some (.ref sid), some (.ref 0), some (.ref 44), some (.int (nI i))] [] (LW c1 m1)) : Go (XL b Ln xs) (ML nm) QL 0 cn sn 869 [some (.ref sid), some (.ref 0), some (.ref 44), some (.int (nI i))] [] (LW c m) := by
  refine go_aload_n dL_law_869 rfl ?_
  refine go_aload_n dL_law_870 rfl ?_
  refine go_iload_n dL_law_871 rfl ?_
  refine go_iconst (1) dL_law_872 (by decide) ?_
  refine go_iadd dL_law_873 ?_
  refine go_sld dL_law_874 (vin_off (j := 1) (by omega) hL) ?_
  obtain ⟨Q1, hE1, hq1⟩ := ag_lose (xs (nI i + 1).toNatClampNeg) c m hs
  refine go_callC (z := MX11_lose) (simC hs) dL_law_875 lL_127 sX11_lose hE1 rfl rfl rfl rfl (fit_law rfl rfl rfl rfl (by omega) (by omega)) rfl (fun v c1 h => ?_) (fun v c1 h => ?_)
  · obtain ⟨⟨r, rfl⟩, hcw, -⟩ := hq1 v c1 h
    exact ⟨hcw, rfl⟩
  obtain ⟨⟨r, rfl⟩, hcw, hE2⟩ := hq1 v c1 h
  refine go_aload_n dL_law_878 rfl ?_
  refine go_aload_n dL_law_879 rfl ?_
  refine go_iload_n dL_law_880 rfl ?_
  refine go_iconst (1) dL_law_881 (by decide) ?_
  refine go_iadd dL_law_882 ?_
  refine go_sld dL_law_883 (vin_off (j := 1) (by omega) hL) ?_
  refine go_callM (z := MX12_lose) hcw hs dL_law_884 lL_130 sX12_lose hE2 rfl rfl rfl rfl (fit_law rfl rfl rfl rfl (show cn + MX11_lose.2.2.2.2.cells ≤ 590010 from Nat.add_le_add hcn (show MX11_lose.2.2.2.2.cells ≤ 10 from Nat.le_of_ble_eq_true rfl)) (show sn + MX11_lose.2.2.2.2.slots ≤ 7000010 from Nat.add_le_add hsn (show MX11_lose.2.2.2.2.slots ≤ 10 from Nat.le_of_ble_eq_true rfl))) rfl (fun v2 m1 h2 => ?_) (fun v2 m1 h2 => ?_)
  · obtain ⟨rfl, hsim⟩ := h2
    exact ⟨hsim, rfl⟩
  obtain ⟨rfl, hsim⟩ := h2
  refine go_icmp_eq 1111 dL_law_887 (by decide) (fun _ => ?_) (fun q => absurd rfl q)
  exact go_widen (Nat.add_le_add (Nat.add_le_add_left (show MX11_lose.2.2.2.2.cells ≤ 10 from Nat.le_of_ble_eq_true rfl) cn) (show MX12_lose.2.2.2.2.cells ≤ 10 from Nat.le_of_ble_eq_true rfl)) (Nat.add_le_add (Nat.add_le_add_left (show MX11_lose.2.2.2.2.slots ≤ 10 from Nat.le_of_ble_eq_true rfl) sn) (show MX12_lose.2.2.2.2.slots ≤ 10 from Nat.le_of_ble_eq_true rfl)) (k c1 m1 hsim)
set_option maxRecDepth 100000 in
theorem law_lay {nm : String} {b Ln : Nat} {xs : Nat → Int32} (i : Nat) (hi : i + 6 ≤ Ln) (hL : Ln ≤ 384) (c m : List AE) (hs : Sim c m) (cn sn : Nat) (hcn : cn ≤ 590000) (hsn : sn ≤ 7000000) (k : ∀ c1 m1, Sim c1 m1 → Go (XL b Ln xs) (ML nm) QL 0 (cn + 10 + 10) (sn + 10 + 10) 1111 [some (.ref sid), some (.ref 0), some (.ref 44), some (.int (nI i))] [] (LW c1 m1)) : Go (XL b Ln xs) (ML nm) QL 0 cn sn 892 [some (.ref sid), some (.ref 0), some (.ref 44), some (.int (nI i))] [] (LW c m) := by
  refine go_aload_n dL_law_892 rfl ?_
  refine go_aload_n dL_law_893 rfl ?_
  refine go_iload_n dL_law_894 rfl ?_
  refine go_iconst (1) dL_law_895 (by decide) ?_
  refine go_iadd dL_law_896 ?_
  refine go_sld dL_law_897 (vin_off (j := 1) (by omega) hL) ?_
  refine go_aload_n dL_law_898 rfl ?_
  refine go_iload_n dL_law_899 rfl ?_
  refine go_iconst (2) dL_law_900 (by decide) ?_
  refine go_iadd dL_law_901 ?_
  refine go_sld dL_law_902 (vin_off (j := 2) (by omega) hL) ?_
  refine go_aload_n dL_law_903 rfl ?_
  refine go_iload_n dL_law_904 rfl ?_
  refine go_iconst (3) dL_law_905 (by decide) ?_
  refine go_iadd dL_law_906 ?_
  refine go_sld dL_law_907 (vin_off (j := 3) (by omega) hL) ?_
  refine go_aload_n dL_law_908 rfl ?_
  refine go_iload_n dL_law_909 rfl ?_
  refine go_iconst (4) dL_law_910 (by decide) ?_
  refine go_iadd dL_law_911 ?_
  refine go_sld dL_law_912 (vin_off (j := 4) (by omega) hL) ?_
  obtain ⟨Q1, hE1, hq1⟩ := ag_lay (xs (nI i + 1).toNatClampNeg) (xs (nI i + 2).toNatClampNeg) (xs (nI i + 3).toNatClampNeg) (xs (nI i + 4).toNatClampNeg) c m hs
  refine go_callC (z := MX11_lay) (simC hs) dL_law_913 lL_131 sX11_lay hE1 rfl rfl rfl rfl (fit_law rfl rfl rfl rfl (by omega) (by omega)) rfl (fun v c1 h => ?_) (fun v c1 h => ?_)
  · obtain ⟨⟨r, rfl⟩, hcw, -⟩ := hq1 v c1 h
    exact ⟨hcw, rfl⟩
  obtain ⟨⟨r, rfl⟩, hcw, hE2⟩ := hq1 v c1 h
  refine go_aload_n dL_law_916 rfl ?_
  refine go_aload_n dL_law_917 rfl ?_
  refine go_iload_n dL_law_918 rfl ?_
  refine go_iconst (1) dL_law_919 (by decide) ?_
  refine go_iadd dL_law_920 ?_
  refine go_sld dL_law_921 (vin_off (j := 1) (by omega) hL) ?_
  refine go_aload_n dL_law_922 rfl ?_
  refine go_iload_n dL_law_923 rfl ?_
  refine go_iconst (2) dL_law_924 (by decide) ?_
  refine go_iadd dL_law_925 ?_
  refine go_sld dL_law_926 (vin_off (j := 2) (by omega) hL) ?_
  refine go_aload_n dL_law_927 rfl ?_
  refine go_iload_n dL_law_928 rfl ?_
  refine go_iconst (3) dL_law_929 (by decide) ?_
  refine go_iadd dL_law_930 ?_
  refine go_sld dL_law_931 (vin_off (j := 3) (by omega) hL) ?_
  refine go_aload_n dL_law_932 rfl ?_
  refine go_iload_n dL_law_933 rfl ?_
  refine go_iconst (4) dL_law_934 (by decide) ?_
  refine go_iadd dL_law_935 ?_
  refine go_sld dL_law_936 (vin_off (j := 4) (by omega) hL) ?_
  refine go_callM (z := MX12_lay) hcw hs dL_law_937 lL_135 sX12_lay hE2 rfl rfl rfl rfl (fit_law rfl rfl rfl rfl (show cn + MX11_lay.2.2.2.2.cells ≤ 590010 from Nat.add_le_add hcn (show MX11_lay.2.2.2.2.cells ≤ 10 from Nat.le_of_ble_eq_true rfl)) (show sn + MX11_lay.2.2.2.2.slots ≤ 7000010 from Nat.add_le_add hsn (show MX11_lay.2.2.2.2.slots ≤ 10 from Nat.le_of_ble_eq_true rfl))) rfl (fun v2 m1 h2 => ?_) (fun v2 m1 h2 => ?_)
  · obtain ⟨rfl, hsim⟩ := h2
    exact ⟨hsim, rfl⟩
  obtain ⟨rfl, hsim⟩ := h2
  refine go_icmp_eq 1111 dL_law_940 (by decide) (fun _ => ?_) (fun q => absurd rfl q)
  exact go_widen (Nat.add_le_add (Nat.add_le_add_left (show MX11_lay.2.2.2.2.cells ≤ 10 from Nat.le_of_ble_eq_true rfl) cn) (show MX12_lay.2.2.2.2.cells ≤ 10 from Nat.le_of_ble_eq_true rfl)) (Nat.add_le_add (Nat.add_le_add_left (show MX11_lay.2.2.2.2.slots ≤ 10 from Nat.le_of_ble_eq_true rfl) sn) (show MX12_lay.2.2.2.2.slots ≤ 10 from Nat.le_of_ble_eq_true rfl)) (k c1 m1 hsim)
set_option maxRecDepth 100000 in
theorem law_get {nm : String} {b Ln : Nat} {xs : Nat → Int32} (i : Nat) (hi : i + 6 ≤ Ln) (hL : Ln ≤ 384) (c m : List AE) (hs : Sim c m) (cn sn : Nat) (hcn : cn ≤ 590000) (hsn : sn ≤ 7000000) (k : ∀ c1 m1, Sim c1 m1 → Go (XL b Ln xs) (ML nm) QL 0 (cn + 10 + 10) (sn + 10 + 10) 1111 [some (.ref sid), some (.ref 0), some (.ref 44), some (.int (nI i))] [] (LW c1 m1)) : Go (XL b Ln xs) (ML nm) QL 0 cn sn 945 [some (.ref sid), some (.ref 0), some (.ref 44), some (.int (nI i))] [] (LW c m) := by
  refine go_aload_n dL_law_945 rfl ?_
  refine go_aload_n dL_law_946 rfl ?_
  refine go_iload_n dL_law_947 rfl ?_
  refine go_iconst (1) dL_law_948 (by decide) ?_
  refine go_iadd dL_law_949 ?_
  refine go_sld dL_law_950 (vin_off (j := 1) (by omega) hL) ?_
  refine go_aload_n dL_law_951 rfl ?_
  refine go_iload_n dL_law_952 rfl ?_
  refine go_iconst (2) dL_law_953 (by decide) ?_
  refine go_iadd dL_law_954 ?_
  refine go_sld dL_law_955 (vin_off (j := 2) (by omega) hL) ?_
  refine go_aload_n dL_law_956 rfl ?_
  refine go_iload_n dL_law_957 rfl ?_
  refine go_iconst (3) dL_law_958 (by decide) ?_
  refine go_iadd dL_law_959 ?_
  refine go_sld dL_law_960 (vin_off (j := 3) (by omega) hL) ?_
  obtain ⟨Q1, hE1, hq1⟩ := ag_get (xs (nI i + 1).toNatClampNeg) (xs (nI i + 2).toNatClampNeg) (xs (nI i + 3).toNatClampNeg) c m hs
  refine go_callC (z := MX11_get) (simC hs) dL_law_961 lL_136 sX11_get hE1 rfl rfl rfl rfl (fit_law rfl rfl rfl rfl (by omega) (by omega)) rfl (fun v c1 h => ?_) (fun v c1 h => ?_)
  · obtain ⟨⟨r, rfl⟩, hcw, -⟩ := hq1 v c1 h
    exact ⟨hcw, rfl⟩
  obtain ⟨⟨r, rfl⟩, hcw, hE2⟩ := hq1 v c1 h
  refine go_aload_n dL_law_964 rfl ?_
  refine go_aload_n dL_law_965 rfl ?_
  refine go_iload_n dL_law_966 rfl ?_
  refine go_iconst (1) dL_law_967 (by decide) ?_
  refine go_iadd dL_law_968 ?_
  refine go_sld dL_law_969 (vin_off (j := 1) (by omega) hL) ?_
  refine go_aload_n dL_law_970 rfl ?_
  refine go_iload_n dL_law_971 rfl ?_
  refine go_iconst (2) dL_law_972 (by decide) ?_
  refine go_iadd dL_law_973 ?_
  refine go_sld dL_law_974 (vin_off (j := 2) (by omega) hL) ?_
  refine go_aload_n dL_law_975 rfl ?_
  refine go_iload_n dL_law_976 rfl ?_
  refine go_iconst (3) dL_law_977 (by decide) ?_
  refine go_iadd dL_law_978 ?_
  refine go_sld dL_law_979 (vin_off (j := 3) (by omega) hL) ?_
  refine go_callM (z := MX12_get) hcw hs dL_law_980 lL_139 sX12_get hE2 rfl rfl rfl rfl (fit_law rfl rfl rfl rfl (show cn + MX11_get.2.2.2.2.cells ≤ 590010 from Nat.add_le_add hcn (show MX11_get.2.2.2.2.cells ≤ 10 from Nat.le_of_ble_eq_true rfl)) (show sn + MX11_get.2.2.2.2.slots ≤ 7000010 from Nat.add_le_add hsn (show MX11_get.2.2.2.2.slots ≤ 10 from Nat.le_of_ble_eq_true rfl))) rfl (fun v2 m1 h2 => ?_) (fun v2 m1 h2 => ?_)
  · obtain ⟨rfl, hsim⟩ := h2
    exact ⟨hsim, rfl⟩
  obtain ⟨rfl, hsim⟩ := h2
  refine go_icmp_eq 1111 dL_law_983 (by decide) (fun _ => ?_) (fun q => absurd rfl q)
  exact go_widen (Nat.add_le_add (Nat.add_le_add_left (show MX11_get.2.2.2.2.cells ≤ 10 from Nat.le_of_ble_eq_true rfl) cn) (show MX12_get.2.2.2.2.cells ≤ 10 from Nat.le_of_ble_eq_true rfl)) (Nat.add_le_add (Nat.add_le_add_left (show MX11_get.2.2.2.2.slots ≤ 10 from Nat.le_of_ble_eq_true rfl) sn) (show MX12_get.2.2.2.2.slots ≤ 10 from Nat.le_of_ble_eq_true rfl)) (k c1 m1 hsim)
set_option maxRecDepth 100000 in
theorem law_copy {nm : String} {b Ln : Nat} {xs : Nat → Int32} (i : Nat) (hi : i + 6 ≤ Ln) (hL : Ln ≤ 384) (c m : List AE) (hs : Sim c m) (cn sn : Nat) (hcn : cn ≤ 590000) (hsn : sn ≤ 7000000) (k : ∀ c1 m1, Sim c1 m1 → Go (XL b Ln xs) (ML nm) QL 0 (cn + 10 + 10) (sn + 10 + 10) 1111 [some (.ref sid), some (.ref 0), some (.ref 44), some (.int (nI i))] [] (LW c1 m1)) : Go (XL b Ln xs) (ML nm) QL 0 cn sn 988 [some (.ref sid), some (.ref 0), some (.ref 44), some (.int (nI i))] [] (LW c m) := by
  refine go_aload_n dL_law_988 rfl ?_
  refine go_aload_n dL_law_989 rfl ?_
  refine go_iload_n dL_law_990 rfl ?_
  refine go_iconst (1) dL_law_991 (by decide) ?_
  refine go_iadd dL_law_992 ?_
  refine go_sld dL_law_993 (vin_off (j := 1) (by omega) hL) ?_
  refine go_aload_n dL_law_994 rfl ?_
  refine go_iload_n dL_law_995 rfl ?_
  refine go_iconst (2) dL_law_996 (by decide) ?_
  refine go_iadd dL_law_997 ?_
  refine go_sld dL_law_998 (vin_off (j := 2) (by omega) hL) ?_
  refine go_aload_n dL_law_999 rfl ?_
  refine go_iload_n dL_law_1000 rfl ?_
  refine go_iconst (3) dL_law_1001 (by decide) ?_
  refine go_iadd dL_law_1002 ?_
  refine go_sld dL_law_1003 (vin_off (j := 3) (by omega) hL) ?_
  refine go_aload_n dL_law_1004 rfl ?_
  refine go_iload_n dL_law_1005 rfl ?_
  refine go_iconst (4) dL_law_1006 (by decide) ?_
  refine go_iadd dL_law_1007 ?_
  refine go_sld dL_law_1008 (vin_off (j := 4) (by omega) hL) ?_
  refine go_aload_n dL_law_1009 rfl ?_
  refine go_iload_n dL_law_1010 rfl ?_
  refine go_iconst (5) dL_law_1011 (by decide) ?_
  refine go_iadd dL_law_1012 ?_
  refine go_sld dL_law_1013 (vin_off (j := 5) (by omega) hL) ?_
  obtain ⟨Q1, hE1, hq1⟩ := ag_copy (xs (nI i + 1).toNatClampNeg) (xs (nI i + 2).toNatClampNeg) (xs (nI i + 3).toNatClampNeg) (xs (nI i + 4).toNatClampNeg) (xs (nI i + 5).toNatClampNeg) c m hs
  refine go_callC (z := MX11_copy) (simC hs) dL_law_1014 lL_140 sX11_copy hE1 rfl rfl rfl rfl (fit_law rfl rfl rfl rfl (by omega) (by omega)) rfl (fun v c1 h => ?_) (fun v c1 h => ?_)
  · obtain ⟨⟨r, rfl⟩, hcw, -⟩ := hq1 v c1 h
    exact ⟨hcw, rfl⟩
  obtain ⟨⟨r, rfl⟩, hcw, hE2⟩ := hq1 v c1 h
  refine go_aload_n dL_law_1017 rfl ?_
  refine go_aload_n dL_law_1018 rfl ?_
  refine go_iload_n dL_law_1019 rfl ?_
  refine go_iconst (1) dL_law_1020 (by decide) ?_
  refine go_iadd dL_law_1021 ?_
  refine go_sld dL_law_1022 (vin_off (j := 1) (by omega) hL) ?_
  refine go_aload_n dL_law_1023 rfl ?_
  refine go_iload_n dL_law_1024 rfl ?_
  refine go_iconst (2) dL_law_1025 (by decide) ?_
  refine go_iadd dL_law_1026 ?_
  refine go_sld dL_law_1027 (vin_off (j := 2) (by omega) hL) ?_
  refine go_aload_n dL_law_1028 rfl ?_
  refine go_iload_n dL_law_1029 rfl ?_
  refine go_iconst (3) dL_law_1030 (by decide) ?_
  refine go_iadd dL_law_1031 ?_
  refine go_sld dL_law_1032 (vin_off (j := 3) (by omega) hL) ?_
  refine go_aload_n dL_law_1033 rfl ?_
  refine go_iload_n dL_law_1034 rfl ?_
  refine go_iconst (4) dL_law_1035 (by decide) ?_
  refine go_iadd dL_law_1036 ?_
  refine go_sld dL_law_1037 (vin_off (j := 4) (by omega) hL) ?_
  refine go_aload_n dL_law_1038 rfl ?_
  refine go_iload_n dL_law_1039 rfl ?_
  refine go_iconst (5) dL_law_1040 (by decide) ?_
  refine go_iadd dL_law_1041 ?_
  refine go_sld dL_law_1042 (vin_off (j := 5) (by omega) hL) ?_
  refine go_callM (z := MX12_copy) hcw hs dL_law_1043 lL_144 sX12_copy hE2 rfl rfl rfl rfl (fit_law rfl rfl rfl rfl (show cn + MX11_copy.2.2.2.2.cells ≤ 590010 from Nat.add_le_add hcn (show MX11_copy.2.2.2.2.cells ≤ 10 from Nat.le_of_ble_eq_true rfl)) (show sn + MX11_copy.2.2.2.2.slots ≤ 7000010 from Nat.add_le_add hsn (show MX11_copy.2.2.2.2.slots ≤ 10 from Nat.le_of_ble_eq_true rfl))) rfl (fun v2 m1 h2 => ?_) (fun v2 m1 h2 => ?_)
  · obtain ⟨rfl, hsim⟩ := h2
    exact ⟨hsim, rfl⟩
  obtain ⟨rfl, hsim⟩ := h2
  refine go_icmp_eq 1111 dL_law_1046 (by decide) (fun _ => ?_) (fun q => absurd rfl q)
  exact go_widen (Nat.add_le_add (Nat.add_le_add_left (show MX11_copy.2.2.2.2.cells ≤ 10 from Nat.le_of_ble_eq_true rfl) cn) (show MX12_copy.2.2.2.2.cells ≤ 10 from Nat.le_of_ble_eq_true rfl)) (Nat.add_le_add (Nat.add_le_add_left (show MX11_copy.2.2.2.2.slots ≤ 10 from Nat.le_of_ble_eq_true rfl) sn) (show MX12_copy.2.2.2.2.slots ≤ 10 from Nat.le_of_ble_eq_true rfl)) (k c1 m1 hsim)
set_option maxRecDepth 100000 in
theorem law_write {nm : String} {b Ln : Nat} {xs : Nat → Int32} (i : Nat) (hi : i + 6 ≤ Ln) (hL : Ln ≤ 384) (c m : List AE) (hs : Sim c m) (cn sn : Nat) (hcn : cn ≤ 590000) (hsn : sn ≤ 7000000) (k : ∀ c1 m1, Sim c1 m1 → Go (XL b Ln xs) (ML nm) QL 0 (cn + 10 + 10) (sn + 10 + 10) 1111 [some (.ref sid), some (.ref 0), some (.ref 44), some (.int (nI i))] [] (LW c1 m1)) : Go (XL b Ln xs) (ML nm) QL 0 cn sn 1051 [some (.ref sid), some (.ref 0), some (.ref 44), some (.int (nI i))] [] (LW c m) := by
  refine go_aload_n dL_law_1051 rfl ?_
  refine go_aload_n dL_law_1052 rfl ?_
  refine go_iload_n dL_law_1053 rfl ?_
  refine go_iconst (1) dL_law_1054 (by decide) ?_
  refine go_iadd dL_law_1055 ?_
  refine go_sld dL_law_1056 (vin_off (j := 1) (by omega) hL) ?_
  obtain ⟨Q1, hE1, hq1⟩ := ag_write (xs (nI i + 1).toNatClampNeg) c m hs
  refine go_callC (z := MX11_write) (simC hs) dL_law_1057 lL_145 sX11_write hE1 rfl rfl rfl rfl (fit_law rfl rfl rfl rfl (by omega) (by omega)) rfl (fun v c1 h => ?_) (fun v c1 h => ?_)
  · obtain ⟨⟨r, rfl⟩, hcw, -⟩ := hq1 v c1 h
    exact ⟨hcw, rfl⟩
  obtain ⟨⟨r, rfl⟩, hcw, hE2⟩ := hq1 v c1 h
  refine go_aload_n dL_law_1060 rfl ?_
  refine go_aload_n dL_law_1061 rfl ?_
  refine go_iload_n dL_law_1062 rfl ?_
  refine go_iconst (1) dL_law_1063 (by decide) ?_
  refine go_iadd dL_law_1064 ?_
  refine go_sld dL_law_1065 (vin_off (j := 1) (by omega) hL) ?_
  refine go_callM (z := MX12_write) hcw hs dL_law_1066 lL_148 sX12_write hE2 rfl rfl rfl rfl (fit_law rfl rfl rfl rfl (show cn + MX11_write.2.2.2.2.cells ≤ 590010 from Nat.add_le_add hcn (show MX11_write.2.2.2.2.cells ≤ 10 from Nat.le_of_ble_eq_true rfl)) (show sn + MX11_write.2.2.2.2.slots ≤ 7000010 from Nat.add_le_add hsn (show MX11_write.2.2.2.2.slots ≤ 10 from Nat.le_of_ble_eq_true rfl))) rfl (fun v2 m1 h2 => ?_) (fun v2 m1 h2 => ?_)
  · obtain ⟨rfl, hsim⟩ := h2
    exact ⟨hsim, rfl⟩
  obtain ⟨rfl, hsim⟩ := h2
  refine go_icmp_eq 1111 dL_law_1069 (by decide) (fun _ => ?_) (fun q => absurd rfl q)
  exact go_widen (Nat.add_le_add (Nat.add_le_add_left (show MX11_write.2.2.2.2.cells ≤ 10 from Nat.le_of_ble_eq_true rfl) cn) (show MX12_write.2.2.2.2.cells ≤ 10 from Nat.le_of_ble_eq_true rfl)) (Nat.add_le_add (Nat.add_le_add_left (show MX11_write.2.2.2.2.slots ≤ 10 from Nat.le_of_ble_eq_true rfl) sn) (show MX12_write.2.2.2.2.slots ≤ 10 from Nat.le_of_ble_eq_true rfl)) (k c1 m1 hsim)
set_option maxRecDepth 100000 in
theorem law_count {nm : String} {b Ln : Nat} {xs : Nat → Int32} (i : Nat) (hi : i + 6 ≤ Ln) (hL : Ln ≤ 384) (c m : List AE) (hs : Sim c m) (cn sn : Nat) (hcn : cn ≤ 590000) (hsn : sn ≤ 7000000) (k : ∀ c1 m1, Sim c1 m1 → Go (XL b Ln xs) (ML nm) QL 0 (cn + 10 + 10) (sn + 10 + 10) 1111 [some (.ref sid), some (.ref 0), some (.ref 44), some (.int (nI i))] [] (LW c1 m1)) : Go (XL b Ln xs) (ML nm) QL 0 cn sn 1074 [some (.ref sid), some (.ref 0), some (.ref 44), some (.int (nI i))] [] (LW c m) := by
  refine go_aload_n dL_law_1074 rfl ?_
  refine go_aload_n dL_law_1075 rfl ?_
  refine go_iload_n dL_law_1076 rfl ?_
  refine go_iconst (1) dL_law_1077 (by decide) ?_
  refine go_iadd dL_law_1078 ?_
  refine go_sld dL_law_1079 (vin_off (j := 1) (by omega) hL) ?_
  obtain ⟨Q1, hE1, hq1⟩ := ag_count (xs (nI i + 1).toNatClampNeg) c m hs
  refine go_callC (z := MX11_count) (simC hs) dL_law_1080 lL_149 sX11_count hE1 rfl rfl rfl rfl (fit_law rfl rfl rfl rfl (by omega) (by omega)) rfl (fun v c1 h => ?_) (fun v c1 h => ?_)
  · obtain ⟨⟨r, rfl⟩, hcw, -⟩ := hq1 v c1 h
    exact ⟨hcw, rfl⟩
  obtain ⟨⟨r, rfl⟩, hcw, hE2⟩ := hq1 v c1 h
  refine go_aload_n dL_law_1083 rfl ?_
  refine go_aload_n dL_law_1084 rfl ?_
  refine go_iload_n dL_law_1085 rfl ?_
  refine go_iconst (1) dL_law_1086 (by decide) ?_
  refine go_iadd dL_law_1087 ?_
  refine go_sld dL_law_1088 (vin_off (j := 1) (by omega) hL) ?_
  refine go_callM (z := MX12_count) hcw hs dL_law_1089 lL_152 sX12_count hE2 rfl rfl rfl rfl (fit_law rfl rfl rfl rfl (show cn + MX11_count.2.2.2.2.cells ≤ 590010 from Nat.add_le_add hcn (show MX11_count.2.2.2.2.cells ≤ 10 from Nat.le_of_ble_eq_true rfl)) (show sn + MX11_count.2.2.2.2.slots ≤ 7000010 from Nat.add_le_add hsn (show MX11_count.2.2.2.2.slots ≤ 10 from Nat.le_of_ble_eq_true rfl))) rfl (fun v2 m1 h2 => ?_) (fun v2 m1 h2 => ?_)
  · obtain ⟨rfl, hsim⟩ := h2
    exact ⟨hsim, rfl⟩
  obtain ⟨rfl, hsim⟩ := h2
  refine go_icmp_eq 1111 dL_law_1092 (by decide) (fun _ => ?_) (fun q => absurd rfl q)
  exact go_widen (Nat.add_le_add (Nat.add_le_add_left (show MX11_count.2.2.2.2.cells ≤ 10 from Nat.le_of_ble_eq_true rfl) cn) (show MX12_count.2.2.2.2.cells ≤ 10 from Nat.le_of_ble_eq_true rfl)) (Nat.add_le_add (Nat.add_le_add_left (show MX11_count.2.2.2.2.slots ≤ 10 from Nat.le_of_ble_eq_true rfl) sn) (show MX12_count.2.2.2.2.slots ≤ 10 from Nat.le_of_ble_eq_true rfl)) (k c1 m1 hsim)
set_option maxRecDepth 100000 in
theorem law_digest {nm : String} {b Ln : Nat} {xs : Nat → Int32} (i : Nat) (hi : i + 6 ≤ Ln) (hL : Ln ≤ 384) (c m : List AE) (hs : Sim c m) (cn sn : Nat) (hcn : cn ≤ 590000) (hsn : sn ≤ 7000000) (k : ∀ c1 m1, Sim c1 m1 → Go (XL b Ln xs) (ML nm) QL 0 (cn + 10 + 10) (sn + 10 + 10) 1111 [some (.ref sid), some (.ref 0), some (.ref 44), some (.int (nI i))] [] (LW c1 m1)) : Go (XL b Ln xs) (ML nm) QL 0 cn sn 1097 [some (.ref sid), some (.ref 0), some (.ref 44), some (.int (nI i))] [] (LW c m) := by
  refine go_aload_n dL_law_1097 rfl ?_
  obtain ⟨Q1, hE1, hq1⟩ := ag_digest c m hs
  refine go_callC (z := MX11_digest) (simC hs) dL_law_1098 lL_153 sX11_digest hE1 rfl rfl rfl rfl (fit_law rfl rfl rfl rfl (by omega) (by omega)) rfl (fun v c1 h => ?_) (fun v c1 h => ?_)
  · obtain ⟨⟨r, rfl⟩, hcw, -⟩ := hq1 v c1 h
    exact ⟨hcw, rfl⟩
  obtain ⟨⟨r, rfl⟩, hcw, hE2⟩ := hq1 v c1 h
  refine go_aload_n dL_law_1101 rfl ?_
  refine go_callM (z := MX12_digest) hcw hs dL_law_1102 lL_157 sX12_digest hE2 rfl rfl rfl rfl (fit_law rfl rfl rfl rfl (show cn + MX11_digest.2.2.2.2.cells ≤ 590010 from Nat.add_le_add hcn (show MX11_digest.2.2.2.2.cells ≤ 10 from Nat.le_of_ble_eq_true rfl)) (show sn + MX11_digest.2.2.2.2.slots ≤ 7000010 from Nat.add_le_add hsn (show MX11_digest.2.2.2.2.slots ≤ 10 from Nat.le_of_ble_eq_true rfl))) rfl (fun v2 m1 h2 => ?_) (fun v2 m1 h2 => ?_)
  · obtain ⟨rfl, hsim⟩ := h2
    exact ⟨hsim, rfl⟩
  obtain ⟨rfl, hsim⟩ := h2
  refine go_lcmp dL_law_1105 ?_
  refine go_if_eq 1111 dL_law_1106 (by decide) (fun _ => ?_) (fun q => absurd ((lg_cmp_eq r r).mpr rfl) q)
  exact go_widen (Nat.add_le_add (Nat.add_le_add_left (show MX11_digest.2.2.2.2.cells ≤ 10 from Nat.le_of_ble_eq_true rfl) cn) (show MX12_digest.2.2.2.2.cells ≤ 10 from Nat.le_of_ble_eq_true rfl)) (Nat.add_le_add (Nat.add_le_add_left (show MX11_digest.2.2.2.2.slots ≤ 10 from Nat.le_of_ble_eq_true rfl) sn) (show MX12_digest.2.2.2.2.slots ≤ 10 from Nat.le_of_ble_eq_true rfl)) (k c1 m1 hsim)
