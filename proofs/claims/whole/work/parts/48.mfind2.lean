theorem pw16 {w : Nat} (hw : w < 8) : 2 ^ (32 - 4 * w) = 2 ^ (32 - 4 * (w + 1)) * 16 := by
  rw [show (16 : Nat) = 2 ^ 4 from rfl, ← Nat.pow_add]
  congr 1
  omega
theorem ch_le {P w : Nat} (hw : w ≤ 8) (hP : P ≤ 16 ^ w) : P * 2 ^ (32 - 4 * w) ≤ 2 ^ 32 := by
  rw [p16] at hP
  have := Nat.mul_le_mul_right (2 ^ (32 - 4 * w)) hP
  rw [← Nat.pow_add, show 4 * w + (32 - 4 * w) = 32 by omega] at this
  exact this
/-- the chance behind one felon more -/
theorem ch_step {g : Nat} {pf : Nat → Int32} (hG : GOK g pf) {br : Int32} {f s P w : Nat} (hf : f < g) (hs : s ≤ 9) (hw : w < 8) (hP : P ≤ 16 ^ w) : (if cF pf br f = 3 then lN (P * 2 ^ (32 - 4 * w)) / 16 * (sixI 3 (nI s) (pf (5 * f + 1))).toInt64 else lN (P * 2 ^ (32 - 4 * w))) = lN (P * fcN pf br f s * 2 ^ (32 - 4 * (w + (if winI (cF pf br f) = 0 then 0 else 1)))) := by
  obtain ⟨h1, h2⟩ := fc_ok hG br hf hs
  have hle := ch_le (by omega) hP
  have e16 := pw16 hw
  by_cases c3 : cF pf br f = 3
  · have hw3 : ¬ winI (cF pf br f) = 0 := by rw [c3]; decide
    rw [if_neg hw3, c3] at h1
    rw [if_pos c3, if_neg hw3, h1, nI_l (by omega), show (16 : Int64) = lN 16 from rfl, lN_div (by omega) (by decide) (by decide), lN_mul]
    congr 1
    rw [e16, ← Nat.mul_assoc, Nat.mul_div_cancel _ (by decide), Nat.mul_right_comm]
  · rw [if_neg c3]
    by_cases w0 : winI (cF pf br f) = 0
    · have e1 : fcN pf br f s = 1 := by
        unfold fcN
        rw [if_pos w0]
        rfl
      rw [if_pos w0, e1, Nat.mul_one, Nat.add_zero]
    · have e1 : fcN pf br f s = 16 := by
        unfold fcN
        rw [if_neg w0, six_n c3]
        rfl
      rw [if_neg w0, e1, e16, Nat.mul_assoc, Nat.mul_comm 16]
theorem lv_b2n (pf : Nat → Int32) (br : Int32) {g f : Nat} (hf : f < g) : b2n ((lvN pf br g).testBit f) = if winI (cF pf br f) = 0 then 0 else 1 := by
  rw [lv_bit]
  by_cases q : winI (cF pf br f) = 0
  · rw [if_pos q]; simp [hf, q, b2n]
  · rw [if_neg q]; simp [hf, q, b2n]
def Bst (O : TO) (b : Nat × List Nat) : Prop := O.2.2.2.2.2.2 = lN b.1 ∧ O.2.2.2.2.2.1 = (if b.2.length = 0 then -1 else nI b.2.length) ∧ ∀ i, i < b.2.length → O.2.2.2.2.1 i = nI (b.2.getD i 0)
def Kp (n : Nat) (O O2 : TO) : Prop := (∀ k, k < n → O2.1 k = O.1 k) ∧ ∀ k, k ≤ n → O2.2.1 k = O.2.1 k ∧ O2.2.2.1 k = O.2.2.1 k ∧ O2.2.2.2.1 k = O.2.2.2.1 k
theorem Kp.refl (n : Nat) (O : TO) : Kp n O O := ⟨fun _ _ => rfl, fun _ _ => ⟨rfl, rfl, rfl⟩⟩
theorem Kp.trans {n : Nat} {O O2 O3 : TO} (h : Kp n O O2) (k : Kp n O2 O3) : Kp n O O3 := ⟨fun i hi => (k.1 i hi).trans (h.1 i hi), fun i hi => ⟨(k.2 i hi).1.trans (h.2 i hi).1, (k.2 i hi).2.1.trans (h.2 i hi).2.1, (k.2 i hi).2.2.trans (h.2 i hi).2.2⟩⟩
theorem Kp.mono {n : Nat} {O O2 : TO} (h : Kp (n + 1) O O2) : Kp n O O2 := ⟨fun i hi => h.1 i (by omega), fun i hi => h.2 i (by omega)⟩
def AddP (n f s s0 P : Nat) (w : Nat) (F : TX) (se : AF) (O O2 : TO) : Prop := O2.1 = O.1 ∧ Kp n O O2 ∧ O2.2.1 (n + 1) = nI (nxN F.2 (se 2) s0 f s) ∧ O2.2.2.1 (n + 1) = nI (w + (if winI (cF F.2 (se 2) f) = 0 then 0 else 1)) ∧ O2.2.2.2.1 (n + 1) = lN (P * fcN F.2 (se 2) f s * 2 ^ (32 - 4 * (w + (if winI (cF F.2 (se 2) f) = 0 then 0 else 1)))) ∧ O2.2.2.2.2 = O.2.2.2.2
theorem ev_adds2 (U : TU) (lt : Int32) (B : TB2) (F A : TX) (se : AF) (R : TR) (O : TO) (V : TX) (al : AF) (dr : Int32) (hF : F.1 ≤ 8) (hG : GOK F.1 F.2) (n f : Nat) (hn : n < 9) (hf : f < F.1) (s s0 P w : Nat) (h9 : s0 ≤ 9) (hk : s ≤ s0) (h0 : se 0 = nI s0) (hs : O.2.1 n = nI s) (hw : O.2.2.1 n = nI w) (hc : O.2.2.2.1 n = lN (P * 2 ^ (32 - 4 * w))) (hw8 : w < 8) (hP : P ≤ 16 ^ w) : Ev MX12_adds [.ref 0, .int (nI n), .int (nI f)] (mwd U lt B F A se R O V al dr) (fun v w2 => v = none ∧ ∃ O2 : TO, w2 = (mwd U lt B F A se R O2 V al dr) ∧ AddP n f s s0 P w F se O O2) := by
  refine Ev.mono (ev_X12_adds U lt B F A se R O V al dr n f hn (by omega) s s0 h9 hk h0 hs) ?_
  rintro v w2 ⟨rfl, rfl⟩
  refine ⟨rfl, _, rfl, rfl, ⟨fun k hk => rfl, fun k hk => ⟨pk_un (by omega), pk_un (by omega), vp_un (by omega)⟩⟩, ?_, ?_, ?_, rfl⟩
  · refine pk_us.trans ?_
    rw [hs, h0]
    exact (nx_ok (pf := F.2) (f := f) (se 2) hk h9).1
  · refine pk_us.trans ?_
    rw [hw]
    show nI w + winI (cF F.2 (se 2) f) = _
    by_cases q : winI (cF F.2 (se 2) f) = 0
    · rw [if_pos q, q, Nat.add_zero, Int32.add_zero]
    · rw [if_neg q, (win01 _).resolve_left q]
      exact nI_1 w
  · refine vp_us.trans ?_
    rw [hs, hc]
    exact ch_step hG hf (by omega) hw8 hP
set_option maxRecDepth 100000 in
theorem fo_head (U : TU) (lt : Int32) (B : TB2) (F A : TX) (se : AF) (R : TR) (O : TO) (V : TX) (al : AF) (dr : Int32) {QQ : Option Value → List AE → Prop} (n j m : Nat) (x3 : Int32) (hn : n < 9) (hj : j < 8) (hm : m < 256) (hb : m.testBit j = false) (hr : O.1 n = nI j) (k : Go X0 MX12_findOrder QQ 21 0 0 84 [some (.ref 0), some (.int (nI n)), some (.int (nI m)), some (.int (nI (j + 1)))] [] (mwd U lt B F A se R O V al dr)) : Go X0 MX12_findOrder QQ 21 0 0 49 [some (.ref 0), some (.int (nI n)), some (.int (nI (m ||| 2 ^ j))), some (.int (x3))] [] (mwd U lt B F A se R O V al dr) := by
  refine go_iload_n dX12_findOrder_49 rfl ?_
  refine go_if_lt 221 dX12_findOrder_50 (by decide) (fun c_50 => absurd c_50 (nI_nn (by omega))) (fun _ => ?_)
  refine go_aload_n dX12_findOrder_53 rfl ?_
  refine go_getf fX12_49 dX12_findOrder_54 rfl rfl ?_
  refine go_iload_n dX12_findOrder_57 rfl ?_
  refine go_iald dX12_findOrder_58 rfl (vp_in_nI (by omega) (by decide)) ?_
  simp only [nI_clamp (show n < 2 ^ 31 by omega)]
  rw [hr]
  refine go_iconst (1) dX12_findOrder_59 (by decide) ?_
  refine go_iadd dX12_findOrder_60 ?_
  rw [nI_1]
  refine go_istore_n dX12_findOrder_61 (by decide) ?_
  refine go_aload_n dX12_findOrder_62 rfl ?_
  refine go_getf fX12_49 dX12_findOrder_63 rfl rfl ?_
  refine go_iload_n dX12_findOrder_66 rfl ?_
  refine go_iald dX12_findOrder_67 rfl (vp_in_nI (by omega) (by decide)) ?_
  simp only [nI_clamp (show n < 2 ^ 31 by omega)]
  rw [hr]
  refine go_if_lt 84 dX12_findOrder_68 (by decide) (fun c_68 => absurd c_68 (nI_nn (by omega))) (fun _ => ?_)
  refine go_iload_n dX12_findOrder_71 rfl ?_
  refine go_iconst (1) dX12_findOrder_72 (by decide) ?_
  refine go_aload_n dX12_findOrder_73 rfl ?_
  refine go_getf fX12_49 dX12_findOrder_74 rfl rfl ?_
  refine go_iload_n dX12_findOrder_77 rfl ?_
  refine go_iald dX12_findOrder_78 rfl (vp_in_nI (by omega) (by decide)) ?_
  simp only [nI_clamp (show n < 2 ^ 31 by omega)]
  rw [hr]
  refine go_ishl dX12_findOrder_79 ?_
  refine go_iconst (-1) dX12_findOrder_80 (by decide) ?_
  refine go_ixor dX12_findOrder_81 ?_
  refine go_iand dX12_findOrder_82 ?_
  rw [clr_bit j hj m hm hb]
  refine go_istore_n dX12_findOrder_83 (by decide) ?_
  exact k
set_option maxRecDepth 100000 in
theorem fo_head0 (U : TU) (lt : Int32) (B : TB2) (F A : TX) (se : AF) (R : TR) (O : TO) (V : TX) (al : AF) (dr : Int32) {QQ : Option Value → List AE → Prop} (n m : Nat) (o3 : Option Value) (hn : n < 9) (hr : O.1 n = -1) (k : Go X0 MX12_findOrder QQ 21 0 0 84 [some (.ref 0), some (.int (nI n)), some (.int (nI m)), some (.int (nI 0))] [] (mwd U lt B F A se R O V al dr)) : Go X0 MX12_findOrder QQ 21 0 0 49 [some (.ref 0), some (.int (nI n)), some (.int (nI m)), o3] [] (mwd U lt B F A se R O V al dr) := by
  refine go_iload_n dX12_findOrder_49 rfl ?_
  refine go_if_lt 221 dX12_findOrder_50 (by decide) (fun c_50 => absurd c_50 (nI_nn (by omega))) (fun _ => ?_)
  refine go_aload_n dX12_findOrder_53 rfl ?_
  refine go_getf fX12_49 dX12_findOrder_54 rfl rfl ?_
  refine go_iload_n dX12_findOrder_57 rfl ?_
  refine go_iald dX12_findOrder_58 rfl (vp_in_nI (by omega) (by decide)) ?_
  simp only [nI_clamp (show n < 2 ^ 31 by omega)]
  rw [hr]
  refine go_iconst (1) dX12_findOrder_59 (by decide) ?_
  refine go_iadd dX12_findOrder_60 ?_
  rw [show (-1 : Int32) + 1 = nI 0 from by decide]
  refine go_istore_n dX12_findOrder_61 (by decide) ?_
  refine go_aload_n dX12_findOrder_62 rfl ?_
  refine go_getf fX12_49 dX12_findOrder_63 rfl rfl ?_
  refine go_iload_n dX12_findOrder_66 rfl ?_
  refine go_iald dX12_findOrder_67 rfl (vp_in_nI (by omega) (by decide)) ?_
  simp only [nI_clamp (show n < 2 ^ 31 by omega)]
  rw [hr]
  refine go_if_lt 84 dX12_findOrder_68 (by decide) (fun _ => ?_) (fun c_68 => absurd (by decide) c_68)
  exact k
set_option maxRecDepth 100000 in
set_option maxHeartbeats 4000000 in
theorem fo84 (U : TU) (lt : Int32) (B : TB2) (F A : TX) (se : AF) (R : TR) (V : TX) (al : AF) (dr : Int32) (hF : F.1 ≤ 8) (hG : GOK F.1 F.2) (s0 gl : Nat) (h9 : s0 ≤ 9) (h8 : gl ≤ 8) (h0 : se 0 = nI s0) (h1 : se 1 = nI gl) (vt : Nat → Nat → Nat) (hv : ∀ m, m < 2 ^ F.1 → IsV F.1 (lvN F.2 (se 2) F.1) gl s0 (fcN F.2 (se 2)) (nxN F.2 (se 2) s0) vt m) (QQ : Option Value → List AE → Prop) : ∀ (e n : Nat), e + n + 1 = F.1 → ∀ (d j : Nat), j + d = F.1 → ∀ (O : TO) (b : Nat × List Nat) (m s P : Nat) (path : List Nat), m < 2 ^ F.1 → cnt8 m = n → okr (lvN F.2 (se 2) F.1) s0 m s → cnt8 (m &&& (lvN F.2 (se 2) F.1)) < gl → P ≤ 16 ^ cnt8 (m &&& (lvN F.2 (se 2) F.1)) → path.length = n → (∀ k, k < n → O.1 k = nI (path.getD k 0)) → O.2.1 n = nI s → O.2.2.1 n = nI (cnt8 (m &&& (lvN F.2 (se 2) F.1))) → O.2.2.2.1 n = lN (P * 2 ^ (32 - 4 * cnt8 (m &&& (lvN F.2 (se 2) F.1)))) → Bst O b → b.1 ≤ 2 ^ 32 → (∀ (O2 : TO) (x3 : Int32), Kp n O O2 → Bst O2 (foF F.1 (lvN F.2 (se 2) F.1) gl (fcN F.2 (se 2)) (nxN F.2 (se 2) s0) vt (2 ^ (32 - 4 * gl)) e m s P path d j b) → (foF F.1 (lvN F.2 (se 2) F.1) gl (fcN F.2 (se 2)) (nxN F.2 (se 2) s0) vt (2 ^ (32 - 4 * gl)) e m s P path d j b).1 ≤ 2 ^ 32 → Go X0 MX12_findOrder QQ 21 0 0 49 [some (.ref 0), some (.int (nI n + -1)), some (.int (nI m)), some (.int (x3))] [] (mwd U lt B F A se R O2 V al dr)) → Go X0 MX12_findOrder QQ 21 0 0 84 [some (.ref 0), some (.int (nI n)), some (.int (nI m)), some (.int (nI j))] [] (mwd U lt B F A se R O V al dr) := by
  intro e
  induction e with
  | zero =>
    intro n hn
    intro d
    induction d with
    | zero =>
      intro j hj O b m s P path hm hc hs hw hP hl hp hO1 hO2 hO3 hB hb cont
      have h256 : (2 : Nat) ^ F.1 ≤ 2 ^ 8 := Nat.pow_le_pow_right (by decide) hF
      rw [show j = F.1 by omega]
      refine go_iload_n dX12_findOrder_84 rfl ?_
      refine go_aload_n dX12_findOrder_85 rfl ?_
      refine go_getf fX12_112 dX12_findOrder_86 rfl rfl ?_
      refine go_icmp_ge 106 dX12_findOrder_89 (by decide) (fun _ => ?_) (fun c_89 => absurd (Int32.le_refl _) c_89)
      refine go_iload_n dX12_findOrder_106 rfl ?_
      refine go_aload_n dX12_findOrder_107 rfl ?_
      refine go_getf fX12_112 dX12_findOrder_108 rfl rfl ?_
      refine go_icmp_lt 120 dX12_findOrder_111 (by decide) (fun c_111 => absurd c_111 (Int32.not_lt.mpr (Int32.le_refl _))) (fun _ => ?_)
      refine go_iincN (-1) dX12_findOrder_114 rfl (by decide) (by decide) ?_
      refine go_goto 218 dX12_findOrder_117 (by decide) ?_
      refine go_goto 49 dX12_findOrder_218 (by decide) ?_
      exact cont O _ (Kp.refl n O) hB hb
    | succ d ih =>
      intro j hj O b m s P path hm hc hs hw hP hl hp hO1 hO2 hO3 hB hb cont
      have h256 : (2 : Nat) ^ F.1 ≤ 2 ^ 8 := Nat.pow_le_pow_right (by decide) hF
      refine go_iload_n dX12_findOrder_84 rfl ?_
      refine go_aload_n dX12_findOrder_85 rfl ?_
      refine go_getf fX12_112 dX12_findOrder_86 rfl rfl ?_
      refine go_icmp_ge 106 dX12_findOrder_89 (by decide) (fun c_89 => absurd c_89 (nI_ge (by omega) (by omega))) (fun _ => ?_)
      refine go_iload_n dX12_findOrder_92 rfl ?_
      refine go_iload_n dX12_findOrder_93 rfl ?_
      refine go_callSi (z := MX12_isIn) [] dX12_findOrder_94 lX12_149 sX12_isIn (ev_X12_isIn m j (by omega) (by omega)) rfl rfl rfl rfl rfl rfl ?_
      refine go_if_eq 106 dX12_findOrder_97 (by decide) (fun c_97 => ?_) (fun c_97 => ?_)
      · have hbit := bit_t c_97
        have next : ∀ (O2 : TO) (x3 : Int32), Kp n O O2 → O2.1 n = nI j → Bst O2 (apF F.1 (lvN F.2 (se 2) F.1) gl (fcN F.2 (se 2)) (nxN F.2 (se 2) s0) vt (2 ^ (32 - 4 * gl)) 0 m s P path j b) → (apF F.1 (lvN F.2 (se 2) F.1) gl (fcN F.2 (se 2)) (nxN F.2 (se 2) s0) vt (2 ^ (32 - 4 * gl)) 0 m s P path j b).1 ≤ 2 ^ 32 → Go X0 MX12_findOrder QQ 21 0 0 49 [some (.ref 0), some (.int (nI n)), some (.int (nI (m ||| 2 ^ j))), some (.int (x3))] [] (mwd U lt B F A se R O2 V al dr) := by
          intro O2 x3 hK hr hB2 hb2
          refine fo_head U lt B F A se R O2 V al dr n j m x3 (by omega) (by omega) (by omega) hbit hr ?_
          exact ih (j + 1) (by omega) O2 (apF F.1 (lvN F.2 (se 2) F.1) gl (fcN F.2 (se 2)) (nxN F.2 (se 2) s0) vt (2 ^ (32 - 4 * gl)) 0 m s P path j b) m s P path hm hc hs hw hP hl (fun k hk => by rw [hK.1 k hk]; exact hp k hk) (by rw [(hK.2 n (Nat.le_refl _)).1]; exact hO1) (by rw [(hK.2 n (Nat.le_refl _)).2.1]; exact hO2) (by rw [(hK.2 n (Nat.le_refl _)).2.2]; exact hO3) hB2 hb2 (fun O3 x3 hK3 hB3 hb3 => cont O3 x3 (hK.trans hK3) hB3 hb3)
        have hbd := plan_bd hG (se 2) h9
        have hm2 := or_lt hm (show j < F.1 by omega)
        have hs2 := okr_nx hbd (show j < F.1 by omega) hF hbit hs
        have hw2 : cnt8 ((m ||| 2 ^ j) &&& (lvN F.2 (se 2) F.1)) = cnt8 (m &&& (lvN F.2 (se 2) F.1)) + b2n ((lvN F.2 (se 2) F.1).testBit j) := cnt8_or (by omega) hbit
        have hb1 : b2n ((lvN F.2 (se 2) F.1).testBit j) ≤ 1 := by cases (lvN F.2 (se 2) F.1).testBit j <;> decide
        obtain ⟨hv1, hv2⟩ := hv _ hm2 _ hs2
        have hP2 : P * (fcN F.2 (se 2)) j s ≤ 16 ^ cnt8 ((m ||| 2 ^ j) &&& (lvN F.2 (se 2) F.1)) := by
          rw [hw2]
          have hf4 := hbd j s (by omega) hs.1
          cases hq : (lvN F.2 (se 2) F.1).testBit j with
          | true =>
            rw [show b2n true = 1 from rfl, Nat.pow_succ]
            exact Nat.mul_le_mul hP hf4.1
          | false =>
            rw [show b2n false = 0 from rfl, hf4.2.2.2 hq, Nat.mul_one]
            exact hP
        have hch := ch_le (show cnt8 ((m ||| 2 ^ j) &&& (lvN F.2 (se 2) F.1)) ≤ 8 by omega) hP2
        have hub : cnt8 ((m ||| 2 ^ j) &&& (lvN F.2 (se 2) F.1)) ≤ gl → P * vOf (fcN F.2 (se 2)) (nxN F.2 (se 2) s0) vt m s j * 2 ^ (32 - 4 * gl) ≤ P * (fcN F.2 (se 2)) j s * 2 ^ (32 - 4 * cnt8 ((m ||| 2 ^ j) &&& (lvN F.2 (se 2) F.1))) := fun hle => by
          unfold vOf
          have e : 2 ^ (32 - 4 * cnt8 ((m ||| 2 ^ j) &&& (lvN F.2 (se 2) F.1))) = 16 ^ (gl - cnt8 ((m ||| 2 ^ j) &&& (lvN F.2 (se 2) F.1))) * 2 ^ (32 - 4 * gl) := by
            rw [p16, ← Nat.pow_add]
            congr 1
            omega
          rw [e, ← Nat.mul_assoc P, ← Nat.mul_assoc (P * _)]
          exact Nat.mul_le_mul_right _ (Nat.mul_le_mul_left _ hv2)
        have hap : apF F.1 (lvN F.2 (se 2) F.1) gl (fcN F.2 (se 2)) (nxN F.2 (se 2) s0) vt (2 ^ (32 - 4 * gl)) 0 m s P path j b = if P * vOf (fcN F.2 (se 2)) (nxN F.2 (se 2) s0) vt m s j * 2 ^ (32 - 4 * gl) ≤ b.1 then b else (P * vOf (fcN F.2 (se 2)) (nxN F.2 (se 2) s0) vt m s j * 2 ^ (32 - 4 * gl), path ++ j :: grow F.1 (lvN F.2 (se 2) F.1) gl (fcN F.2 (se 2)) (nxN F.2 (se 2) s0) vt 0 (m ||| 2 ^ j) ((nxN F.2 (se 2) s0) j s)) := by
          unfold apF
          rw [hbit]
          rfl
        refine go_iload_n dX12_findOrder_106 rfl ?_
        refine go_aload_n dX12_findOrder_107 rfl ?_
        refine go_getf fX12_112 dX12_findOrder_108 rfl rfl ?_
        refine go_icmp_lt 120 dX12_findOrder_111 (by decide) (fun _ => ?_) (fun c_111 => absurd (nI_lt (by omega) (by omega)) c_111)
        refine go_aload_n dX12_findOrder_120 rfl ?_
        refine go_getf fX12_49 dX12_findOrder_121 rfl rfl ?_
        refine go_iload_n dX12_findOrder_124 rfl ?_
        refine go_iload_n dX12_findOrder_125 rfl ?_
        refine go_iast dX12_findOrder_126 rfl (vp_in_nI (by omega) (by decide)) ?_
        simp only [nI_clamp (show n < 2 ^ 31 by omega)]
        refine go_iload_n dX12_findOrder_127 rfl ?_
        refine go_iconst (1) dX12_findOrder_128 (by decide) ?_
        refine go_iload_n dX12_findOrder_129 rfl ?_
        refine go_ishl dX12_findOrder_130 ?_
        refine go_ior dX12_findOrder_131 ?_
        rw [set_bit j (by omega) m (by omega)]
        refine go_istore_n dX12_findOrder_132 (by decide) ?_
        refine go_aload_n dX12_findOrder_133 rfl ?_
        refine go_iload_n dX12_findOrder_134 rfl ?_
        refine go_iload_n dX12_findOrder_135 rfl ?_
        refine go_callVs (z := MX12_adds) dX12_findOrder_136 lX12_213 sX12_adds (ev_adds2 U lt B F A se R (upd O.1 n (nI j), O.2) V al dr hF hG n j (by omega) (by omega) s s0 P (cnt8 (m &&& (lvN F.2 (se 2) F.1))) h9 hs.1 h0 hO1 hO2 hO3 (by omega) hP) rfl rfl rfl ⟨_, _, rfl⟩ rfl rfl (fun v w1 h => by obtain ⟨-, O2, rfl, -⟩ := h; rfl) (fun v_136 w_136 h_136 => ?_)
        obtain ⟨rfl, Oa, rfl, a1, a2, a3, a4, a5, a6⟩ := h_136
        rw [← lv_b2n F.2 (se 2) (show j < F.1 by omega), ← cnt8_or (lv := (lvN F.2 (se 2) F.1)) (show j < 8 by omega) hbit] at a4 a5
        have hKa : Kp n O Oa := ⟨fun k hk => (a2.1 k hk).trans (pk_un (by omega)), a2.2⟩
        have hra : Oa.1 n = nI j := by rw [a1]; exact pk_us
        have hBa : Bst Oa b := by unfold Bst; rw [a6]; exact hB
        refine go_aload_n dX12_findOrder_139 rfl ?_
        refine go_getf fX12_55 dX12_findOrder_140 rfl rfl ?_
        refine go_iload_n dX12_findOrder_143 rfl ?_
        refine go_iconst (1) dX12_findOrder_144 (by decide) ?_
        refine go_iadd dX12_findOrder_145 ?_
        rw [nI_1]
        refine go_iald dX12_findOrder_146 rfl (vp_in_nI (by omega) (by decide)) ?_
        simp only [nI_clamp (show n + 1 < 2 ^ 31 by omega)]
        rw [a4]
        refine go_aload_n dX12_findOrder_147 rfl ?_
        refine go_getf fX12_34 dX12_findOrder_148 rfl rfl ?_
        refine go_iconst (1) dX12_findOrder_151 (by decide) ?_
        refine go_iald dX12_findOrder_152 rfl (vp_in_nI (n := 1) (by decide) (by decide)) ?_
        rw [show ((1 : Int32)).toNatClampNeg = 1 from rfl, h1]
        refine go_icmp_lt 182 dX12_findOrder_153 (by decide) (fun c_153 => ?_) (fun c_153 => ?_)
        · have hlt2 : cnt8 ((m ||| 2 ^ j) &&& (lvN F.2 (se 2) F.1)) < gl := (nI_ltI (by omega) (by omega)).mp c_153
          refine go_iload_n dX12_findOrder_182 rfl ?_
          refine go_iconst (1) dX12_findOrder_183 (by decide) ?_
          refine go_iadd dX12_findOrder_184 ?_
          refine go_aload_n dX12_findOrder_185 rfl ?_
          refine go_getf fX12_112 dX12_findOrder_186 rfl rfl ?_
          rw [nI_1]
          refine go_icmp_ge 218 dX12_findOrder_189 (by decide) (fun c_189 => ?_) (fun c_189 => ?_)
          · refine go_goto 49 dX12_findOrder_218 (by decide) ?_
            have hfull : vt (m ||| 2 ^ j) ((nxN F.2 (se 2) s0) j s) = 0 := by
              have hcm : cnt8 (m ||| 2 ^ j) = F.1 := by
                have h2 := cnt_up (r := m) (show j < 8 by omega) hbit
                have e : ∀ x, x < 2 ^ 8 → x &&& 255 = x := fun x hx => by rw [show (255 : Nat) = 2 ^ 8 - 1 from rfl, Nat.and_two_pow_sub_one_eq_mod, Nat.mod_eq_of_lt hx]
                rw [e _ (by omega), e _ (by omega)] at h2
                have : ¬ n + 1 < F.1 := fun q => absurd c_189 (nI_ge q (by omega))
                omega
              exact vt_full (hv _ hm2) hs2 hlt2 hF hm2 hcm
            have hz : P * vOf (fcN F.2 (se 2)) (nxN F.2 (se 2) s0) vt m s j * 2 ^ (32 - 4 * gl) ≤ b.1 := by
              unfold vOf
              rw [hfull, Nat.mul_zero, Nat.mul_zero, Nat.zero_mul]
              exact Nat.zero_le _
            refine next Oa _ hKa hra ?_ ?_
            · rw [hap, if_pos hz]; exact hBa
            · rw [hap, if_pos hz]; exact hb
          · refine go_aload_n dX12_findOrder_192 rfl ?_
            refine go_getf fX12_58 dX12_findOrder_193 rfl rfl ?_
            refine go_iload_n dX12_findOrder_196 rfl ?_
            refine go_iconst (1) dX12_findOrder_197 (by decide) ?_
            refine go_iadd dX12_findOrder_198 ?_
            rw [nI_1]
            refine go_lald dX12_findOrder_199 rfl (vp_in_nI (by omega) (by decide)) ?_
            simp only [nI_clamp (show n + 1 < 2 ^ 31 by omega)]
            rw [a5]
            refine go_aload_n dX12_findOrder_200 rfl ?_
            refine go_getf fX12_206 dX12_findOrder_201 rfl rfl ?_
            rw [hBa.1]
            refine go_lcmp dX12_findOrder_204 ?_
            refine go_if_le 218 dX12_findOrder_205 (by decide) (fun c_205 => ?_) (fun c_205 => ?_)
            · refine go_goto 49 dX12_findOrder_218 (by decide) ?_
              refine next Oa _ hKa hra ?_ ?_
              · rw [hap, if_pos (Nat.le_trans (hub (by omega)) ((lNle (by omega) (by omega)).mp ((lg_cmp_le _ _).mp c_205)))]; exact hBa
              · rw [hap, if_pos (Nat.le_trans (hub (by omega)) ((lNle (by omega) (by omega)).mp ((lg_cmp_le _ _).mp c_205)))]; exact hb
            · have hgt : b.1 < P * (fcN F.2 (se 2)) j s * 2 ^ (32 - 4 * cnt8 ((m ||| 2 ^ j) &&& (lvN F.2 (se 2) F.1))) := Nat.lt_of_not_le fun q => c_205 ((lg_cmp_le _ _).mpr ((lNle (by omega) (by omega)).mpr q))
              have hng : n + 1 < F.1 := Nat.lt_of_not_le fun q => c_189 (nI_le q (by omega))
              refine go_iincN (1) dX12_findOrder_208 rfl (by decide) (by decide) ?_
              refine go_aload_n dX12_findOrder_211 rfl ?_
              refine go_getf fX12_49 dX12_findOrder_212 rfl rfl ?_
              refine go_iload_n dX12_findOrder_215 rfl ?_
              refine go_iconst (-1) dX12_findOrder_216 (by decide) ?_
              rw [nI_1]
              refine go_iast dX12_findOrder_217 rfl (vp_in_nI (by omega) (by decide)) ?_
              refine go_goto 49 dX12_findOrder_218 (by decide) ?_
              exact absurd hng (by omega)
        · have hdone : gl ≤ cnt8 ((m ||| 2 ^ j) &&& (lvN F.2 (se 2) F.1)) := Nat.le_of_not_lt fun q => c_153 (nI_lt q (by omega))
          have hgl : cnt8 ((m ||| 2 ^ j) &&& (lvN F.2 (se 2) F.1)) = gl := by omega
          have hvt1 : vt (m ||| 2 ^ j) ((nxN F.2 (se 2) s0) j s) = 1 := by rw [hv1]; unfold vrec; rw [if_pos hdone]
          have hvo : vOf (fcN F.2 (se 2)) (nxN F.2 (se 2) s0) vt m s j = (fcN F.2 (se 2)) j s := by unfold vOf; rw [hvt1, Nat.mul_one]
          rw [hgl] at a5 hch
          refine go_aload_n dX12_findOrder_156 rfl ?_
          refine go_getf fX12_58 dX12_findOrder_157 rfl rfl ?_
          refine go_iload_n dX12_findOrder_160 rfl ?_
          refine go_iconst (1) dX12_findOrder_161 (by decide) ?_
          refine go_iadd dX12_findOrder_162 ?_
          rw [nI_1]
          refine go_lald dX12_findOrder_163 rfl (vp_in_nI (by omega) (by decide)) ?_
          simp only [nI_clamp (show n + 1 < 2 ^ 31 by omega)]
          rw [a5]
          refine go_aload_n dX12_findOrder_164 rfl ?_
          refine go_getf fX12_206 dX12_findOrder_165 rfl rfl ?_
          rw [hBa.1]
          refine go_lcmp dX12_findOrder_168 ?_
          refine go_if_le 218 dX12_findOrder_169 (by decide) (fun c_169 => ?_) (fun c_169 => ?_)
          · refine go_goto 49 dX12_findOrder_218 (by decide) ?_
            refine next Oa _ hKa hra ?_ ?_
            · rw [hap, if_pos (by rw [hvo]; exact (lNle (by omega) (by omega)).mp ((lg_cmp_le _ _).mp c_169))]; exact hBa
            · rw [hap, if_pos (by rw [hvo]; exact (lNle (by omega) (by omega)).mp ((lg_cmp_le _ _).mp c_169))]; exact hb
          · refine go_aload_n dX12_findOrder_172 rfl ?_
            refine go_iload_n dX12_findOrder_173 rfl ?_
            refine go_iconst (1) dX12_findOrder_174 (by decide) ?_
            refine go_iadd dX12_findOrder_175 ?_
            rw [nI_1]
            refine go_callVs (z := MX12_keeps) dX12_findOrder_176 lX12_217 sX12_keeps (ev_X12_keeps U lt B F A se R Oa V al dr (n + 1) (by omega)) rfl rfl rfl ⟨_, _, rfl⟩ rfl rfl (fun v w1 h => by obtain ⟨-, br2, rfl, -⟩ := h; rfl) (fun v_176 w_176 h_176 => ?_)
            obtain ⟨rfl, br2, rfl, hbr⟩ := h_176
            refine go_goto 218 dX12_findOrder_179 (by decide) ?_
            refine go_goto 49 dX12_findOrder_218 (by decide) ?_
            have hgt : b.1 < P * (fcN F.2 (se 2)) j s * 2 ^ (32 - 4 * gl) := Nat.lt_of_not_le fun q => c_169 ((lg_cmp_le _ _).mpr ((lNle (by omega) (by omega)).mpr q))
            refine next (Oa.1, Oa.2.1, Oa.2.2.1, Oa.2.2.2.1, br2, nI (n + 1), Oa.2.2.2.1 (n + 1)) _ ⟨fun k hk => hKa.1 k hk, fun k hk => hKa.2 k hk⟩ hra ?_ ?_
            · rw [hap, if_neg (by rw [hvo]; omega), grow_nil hdone]
              refine ⟨?_, ?_, fun i hi => ?_⟩
              · show Oa.2.2.2.1 (n + 1) = _
                rw [a5, hvo]
              · show nI (n + 1) = _
                rw [List.length_append, hl, if_neg (by simp)]
                rfl
              · show br2 i = _
                rw [List.length_append, hl] at hi
                have hi : i < n + 1 := hi
                rw [hbr i hi]
                by_cases q : i = n
                · subst q
                  rw [hra, ← hl, getD_app1]
                · rw [hKa.1 i (by omega), hp i (by omega), getD_app (by omega)]
            · rw [hap, if_neg (by rw [hvo]; omega)]
              show P * vOf (fcN F.2 (se 2)) (nxN F.2 (se 2) s0) vt m s j * 2 ^ (32 - 4 * gl) ≤ 2 ^ 32
              rw [hvo]
              exact hch
      · refine go_iincN (1) dX12_findOrder_100 rfl (by decide) (by decide) ?_
        refine go_goto 84 dX12_findOrder_103 (by decide) ?_
        have hbit := bit_f c_97
        have hap : apF F.1 (lvN F.2 (se 2) F.1) gl (fcN F.2 (se 2)) (nxN F.2 (se 2) s0) vt (2 ^ (32 - 4 * gl)) 0 m s P path j b = b := by unfold apF; rw [if_pos hbit]
        rw [nI_1]
        have hK := Kp.refl n O
        have ih2 := ih (j + 1) (by omega) O b m s P path hm hc hs hw hP hl hp hO1 hO2 hO3 hB hb
        refine ih2 (fun O3 x3 hK3 hB3 hb3 => cont O3 x3 hK3 ?_ ?_)
        · unfold foF; rw [hap]; exact hB3
        · unfold foF; rw [hap]; exact hb3
  | succ e ihe =>
    intro n hn
    intro d
    induction d with
    | zero =>
      intro j hj O b m s P path hm hc hs hw hP hl hp hO1 hO2 hO3 hB hb cont
      have h256 : (2 : Nat) ^ F.1 ≤ 2 ^ 8 := Nat.pow_le_pow_right (by decide) hF
      rw [show j = F.1 by omega]
      refine go_iload_n dX12_findOrder_84 rfl ?_
      refine go_aload_n dX12_findOrder_85 rfl ?_
      refine go_getf fX12_112 dX12_findOrder_86 rfl rfl ?_
      refine go_icmp_ge 106 dX12_findOrder_89 (by decide) (fun _ => ?_) (fun c_89 => absurd (Int32.le_refl _) c_89)
      refine go_iload_n dX12_findOrder_106 rfl ?_
      refine go_aload_n dX12_findOrder_107 rfl ?_
      refine go_getf fX12_112 dX12_findOrder_108 rfl rfl ?_
      refine go_icmp_lt 120 dX12_findOrder_111 (by decide) (fun c_111 => absurd c_111 (Int32.not_lt.mpr (Int32.le_refl _))) (fun _ => ?_)
      refine go_iincN (-1) dX12_findOrder_114 rfl (by decide) (by decide) ?_
      refine go_goto 218 dX12_findOrder_117 (by decide) ?_
      refine go_goto 49 dX12_findOrder_218 (by decide) ?_
      exact cont O _ (Kp.refl n O) hB hb
    | succ d ih =>
      intro j hj O b m s P path hm hc hs hw hP hl hp hO1 hO2 hO3 hB hb cont
      have h256 : (2 : Nat) ^ F.1 ≤ 2 ^ 8 := Nat.pow_le_pow_right (by decide) hF
      refine go_iload_n dX12_findOrder_84 rfl ?_
      refine go_aload_n dX12_findOrder_85 rfl ?_
      refine go_getf fX12_112 dX12_findOrder_86 rfl rfl ?_
      refine go_icmp_ge 106 dX12_findOrder_89 (by decide) (fun c_89 => absurd c_89 (nI_ge (by omega) (by omega))) (fun _ => ?_)
      refine go_iload_n dX12_findOrder_92 rfl ?_
      refine go_iload_n dX12_findOrder_93 rfl ?_
      refine go_callSi (z := MX12_isIn) [] dX12_findOrder_94 lX12_149 sX12_isIn (ev_X12_isIn m j (by omega) (by omega)) rfl rfl rfl rfl rfl rfl ?_
      refine go_if_eq 106 dX12_findOrder_97 (by decide) (fun c_97 => ?_) (fun c_97 => ?_)
      · have hbit := bit_t c_97
        have next : ∀ (O2 : TO) (x3 : Int32), Kp n O O2 → O2.1 n = nI j → Bst O2 (apF F.1 (lvN F.2 (se 2) F.1) gl (fcN F.2 (se 2)) (nxN F.2 (se 2) s0) vt (2 ^ (32 - 4 * gl)) (e + 1) m s P path j b) → (apF F.1 (lvN F.2 (se 2) F.1) gl (fcN F.2 (se 2)) (nxN F.2 (se 2) s0) vt (2 ^ (32 - 4 * gl)) (e + 1) m s P path j b).1 ≤ 2 ^ 32 → Go X0 MX12_findOrder QQ 21 0 0 49 [some (.ref 0), some (.int (nI n)), some (.int (nI (m ||| 2 ^ j))), some (.int (x3))] [] (mwd U lt B F A se R O2 V al dr) := by
          intro O2 x3 hK hr hB2 hb2
          refine fo_head U lt B F A se R O2 V al dr n j m x3 (by omega) (by omega) (by omega) hbit hr ?_
          exact ih (j + 1) (by omega) O2 (apF F.1 (lvN F.2 (se 2) F.1) gl (fcN F.2 (se 2)) (nxN F.2 (se 2) s0) vt (2 ^ (32 - 4 * gl)) (e + 1) m s P path j b) m s P path hm hc hs hw hP hl (fun k hk => by rw [hK.1 k hk]; exact hp k hk) (by rw [(hK.2 n (Nat.le_refl _)).1]; exact hO1) (by rw [(hK.2 n (Nat.le_refl _)).2.1]; exact hO2) (by rw [(hK.2 n (Nat.le_refl _)).2.2]; exact hO3) hB2 hb2 (fun O3 x3 hK3 hB3 hb3 => cont O3 x3 (hK.trans hK3) hB3 hb3)
        have hbd := plan_bd hG (se 2) h9
        have hm2 := or_lt hm (show j < F.1 by omega)
        have hs2 := okr_nx hbd (show j < F.1 by omega) hF hbit hs
        have hw2 : cnt8 ((m ||| 2 ^ j) &&& (lvN F.2 (se 2) F.1)) = cnt8 (m &&& (lvN F.2 (se 2) F.1)) + b2n ((lvN F.2 (se 2) F.1).testBit j) := cnt8_or (by omega) hbit
        have hb1 : b2n ((lvN F.2 (se 2) F.1).testBit j) ≤ 1 := by cases (lvN F.2 (se 2) F.1).testBit j <;> decide
        obtain ⟨hv1, hv2⟩ := hv _ hm2 _ hs2
        have hP2 : P * (fcN F.2 (se 2)) j s ≤ 16 ^ cnt8 ((m ||| 2 ^ j) &&& (lvN F.2 (se 2) F.1)) := by
          rw [hw2]
          have hf4 := hbd j s (by omega) hs.1
          cases hq : (lvN F.2 (se 2) F.1).testBit j with
          | true =>
            rw [show b2n true = 1 from rfl, Nat.pow_succ]
            exact Nat.mul_le_mul hP hf4.1
          | false =>
            rw [show b2n false = 0 from rfl, hf4.2.2.2 hq, Nat.mul_one]
            exact hP
        have hch := ch_le (show cnt8 ((m ||| 2 ^ j) &&& (lvN F.2 (se 2) F.1)) ≤ 8 by omega) hP2
        have hub : cnt8 ((m ||| 2 ^ j) &&& (lvN F.2 (se 2) F.1)) ≤ gl → P * vOf (fcN F.2 (se 2)) (nxN F.2 (se 2) s0) vt m s j * 2 ^ (32 - 4 * gl) ≤ P * (fcN F.2 (se 2)) j s * 2 ^ (32 - 4 * cnt8 ((m ||| 2 ^ j) &&& (lvN F.2 (se 2) F.1))) := fun hle => by
          unfold vOf
          have e : 2 ^ (32 - 4 * cnt8 ((m ||| 2 ^ j) &&& (lvN F.2 (se 2) F.1))) = 16 ^ (gl - cnt8 ((m ||| 2 ^ j) &&& (lvN F.2 (se 2) F.1))) * 2 ^ (32 - 4 * gl) := by
            rw [p16, ← Nat.pow_add]
            congr 1
            omega
          rw [e, ← Nat.mul_assoc P, ← Nat.mul_assoc (P * _)]
          exact Nat.mul_le_mul_right _ (Nat.mul_le_mul_left _ hv2)
        have hap : apF F.1 (lvN F.2 (se 2) F.1) gl (fcN F.2 (se 2)) (nxN F.2 (se 2) s0) vt (2 ^ (32 - 4 * gl)) (e + 1) m s P path j b = if P * vOf (fcN F.2 (se 2)) (nxN F.2 (se 2) s0) vt m s j * 2 ^ (32 - 4 * gl) ≤ b.1 then b else (P * vOf (fcN F.2 (se 2)) (nxN F.2 (se 2) s0) vt m s j * 2 ^ (32 - 4 * gl), path ++ j :: grow F.1 (lvN F.2 (se 2) F.1) gl (fcN F.2 (se 2)) (nxN F.2 (se 2) s0) vt (e + 1) (m ||| 2 ^ j) ((nxN F.2 (se 2) s0) j s)) := by
          unfold apF
          rw [hbit]
          rfl
        refine go_iload_n dX12_findOrder_106 rfl ?_
        refine go_aload_n dX12_findOrder_107 rfl ?_
        refine go_getf fX12_112 dX12_findOrder_108 rfl rfl ?_
        refine go_icmp_lt 120 dX12_findOrder_111 (by decide) (fun _ => ?_) (fun c_111 => absurd (nI_lt (by omega) (by omega)) c_111)
        refine go_aload_n dX12_findOrder_120 rfl ?_
        refine go_getf fX12_49 dX12_findOrder_121 rfl rfl ?_
        refine go_iload_n dX12_findOrder_124 rfl ?_
        refine go_iload_n dX12_findOrder_125 rfl ?_
        refine go_iast dX12_findOrder_126 rfl (vp_in_nI (by omega) (by decide)) ?_
        simp only [nI_clamp (show n < 2 ^ 31 by omega)]
        refine go_iload_n dX12_findOrder_127 rfl ?_
        refine go_iconst (1) dX12_findOrder_128 (by decide) ?_
        refine go_iload_n dX12_findOrder_129 rfl ?_
        refine go_ishl dX12_findOrder_130 ?_
        refine go_ior dX12_findOrder_131 ?_
        rw [set_bit j (by omega) m (by omega)]
        refine go_istore_n dX12_findOrder_132 (by decide) ?_
        refine go_aload_n dX12_findOrder_133 rfl ?_
        refine go_iload_n dX12_findOrder_134 rfl ?_
        refine go_iload_n dX12_findOrder_135 rfl ?_
        refine go_callVs (z := MX12_adds) dX12_findOrder_136 lX12_213 sX12_adds (ev_adds2 U lt B F A se R (upd O.1 n (nI j), O.2) V al dr hF hG n j (by omega) (by omega) s s0 P (cnt8 (m &&& (lvN F.2 (se 2) F.1))) h9 hs.1 h0 hO1 hO2 hO3 (by omega) hP) rfl rfl rfl ⟨_, _, rfl⟩ rfl rfl (fun v w1 h => by obtain ⟨-, O2, rfl, -⟩ := h; rfl) (fun v_136 w_136 h_136 => ?_)
        obtain ⟨rfl, Oa, rfl, a1, a2, a3, a4, a5, a6⟩ := h_136
        rw [← lv_b2n F.2 (se 2) (show j < F.1 by omega), ← cnt8_or (lv := (lvN F.2 (se 2) F.1)) (show j < 8 by omega) hbit] at a4 a5
        have hKa : Kp n O Oa := ⟨fun k hk => (a2.1 k hk).trans (pk_un (by omega)), a2.2⟩
        have hra : Oa.1 n = nI j := by rw [a1]; exact pk_us
        have hBa : Bst Oa b := by unfold Bst; rw [a6]; exact hB
        refine go_aload_n dX12_findOrder_139 rfl ?_
        refine go_getf fX12_55 dX12_findOrder_140 rfl rfl ?_
        refine go_iload_n dX12_findOrder_143 rfl ?_
        refine go_iconst (1) dX12_findOrder_144 (by decide) ?_
        refine go_iadd dX12_findOrder_145 ?_
        rw [nI_1]
        refine go_iald dX12_findOrder_146 rfl (vp_in_nI (by omega) (by decide)) ?_
        simp only [nI_clamp (show n + 1 < 2 ^ 31 by omega)]
        rw [a4]
        refine go_aload_n dX12_findOrder_147 rfl ?_
        refine go_getf fX12_34 dX12_findOrder_148 rfl rfl ?_
        refine go_iconst (1) dX12_findOrder_151 (by decide) ?_
        refine go_iald dX12_findOrder_152 rfl (vp_in_nI (n := 1) (by decide) (by decide)) ?_
        rw [show ((1 : Int32)).toNatClampNeg = 1 from rfl, h1]
        refine go_icmp_lt 182 dX12_findOrder_153 (by decide) (fun c_153 => ?_) (fun c_153 => ?_)
        · have hlt2 : cnt8 ((m ||| 2 ^ j) &&& (lvN F.2 (se 2) F.1)) < gl := (nI_ltI (by omega) (by omega)).mp c_153
          refine go_iload_n dX12_findOrder_182 rfl ?_
          refine go_iconst (1) dX12_findOrder_183 (by decide) ?_
          refine go_iadd dX12_findOrder_184 ?_
          refine go_aload_n dX12_findOrder_185 rfl ?_
          refine go_getf fX12_112 dX12_findOrder_186 rfl rfl ?_
          rw [nI_1]
          refine go_icmp_ge 218 dX12_findOrder_189 (by decide) (fun c_189 => ?_) (fun c_189 => ?_)
          · refine go_goto 49 dX12_findOrder_218 (by decide) ?_
            have hfull : vt (m ||| 2 ^ j) ((nxN F.2 (se 2) s0) j s) = 0 := by
              have hcm : cnt8 (m ||| 2 ^ j) = F.1 := by
                have h2 := cnt_up (r := m) (show j < 8 by omega) hbit
                have e : ∀ x, x < 2 ^ 8 → x &&& 255 = x := fun x hx => by rw [show (255 : Nat) = 2 ^ 8 - 1 from rfl, Nat.and_two_pow_sub_one_eq_mod, Nat.mod_eq_of_lt hx]
                rw [e _ (by omega), e _ (by omega)] at h2
                have : ¬ n + 1 < F.1 := fun q => absurd c_189 (nI_ge q (by omega))
                omega
              exact vt_full (hv _ hm2) hs2 hlt2 hF hm2 hcm
            have hz : P * vOf (fcN F.2 (se 2)) (nxN F.2 (se 2) s0) vt m s j * 2 ^ (32 - 4 * gl) ≤ b.1 := by
              unfold vOf
              rw [hfull, Nat.mul_zero, Nat.mul_zero, Nat.zero_mul]
              exact Nat.zero_le _
            refine next Oa _ hKa hra ?_ ?_
            · rw [hap, if_pos hz]; exact hBa
            · rw [hap, if_pos hz]; exact hb
          · refine go_aload_n dX12_findOrder_192 rfl ?_
            refine go_getf fX12_58 dX12_findOrder_193 rfl rfl ?_
            refine go_iload_n dX12_findOrder_196 rfl ?_
            refine go_iconst (1) dX12_findOrder_197 (by decide) ?_
            refine go_iadd dX12_findOrder_198 ?_
            rw [nI_1]
            refine go_lald dX12_findOrder_199 rfl (vp_in_nI (by omega) (by decide)) ?_
            simp only [nI_clamp (show n + 1 < 2 ^ 31 by omega)]
            rw [a5]
            refine go_aload_n dX12_findOrder_200 rfl ?_
            refine go_getf fX12_206 dX12_findOrder_201 rfl rfl ?_
            rw [hBa.1]
            refine go_lcmp dX12_findOrder_204 ?_
            refine go_if_le 218 dX12_findOrder_205 (by decide) (fun c_205 => ?_) (fun c_205 => ?_)
            · refine go_goto 49 dX12_findOrder_218 (by decide) ?_
              refine next Oa _ hKa hra ?_ ?_
              · rw [hap, if_pos (Nat.le_trans (hub (by omega)) ((lNle (by omega) (by omega)).mp ((lg_cmp_le _ _).mp c_205)))]; exact hBa
              · rw [hap, if_pos (Nat.le_trans (hub (by omega)) ((lNle (by omega) (by omega)).mp ((lg_cmp_le _ _).mp c_205)))]; exact hb
            · have hgt : b.1 < P * (fcN F.2 (se 2)) j s * 2 ^ (32 - 4 * cnt8 ((m ||| 2 ^ j) &&& (lvN F.2 (se 2) F.1))) := Nat.lt_of_not_le fun q => c_205 ((lg_cmp_le _ _).mpr ((lNle (by omega) (by omega)).mpr q))
              have hng : n + 1 < F.1 := Nat.lt_of_not_le fun q => c_189 (nI_le q (by omega))
              refine go_iincN (1) dX12_findOrder_208 rfl (by decide) (by decide) ?_
              refine go_aload_n dX12_findOrder_211 rfl ?_
              refine go_getf fX12_49 dX12_findOrder_212 rfl rfl ?_
              refine go_iload_n dX12_findOrder_215 rfl ?_
              refine go_iconst (-1) dX12_findOrder_216 (by decide) ?_
              rw [nI_1]
              refine go_iast dX12_findOrder_217 rfl (vp_in_nI (by omega) (by decide)) ?_
              refine go_goto 49 dX12_findOrder_218 (by decide) ?_
              have hkk : cnt8 (m ||| 2 ^ j) = n + 1 := by
                have h2 := cnt_up (r := m) (show j < 8 by omega) hbit
                have e : ∀ x, x < 2 ^ 8 → x &&& 255 = x := fun x hx => by rw [show (255 : Nat) = 2 ^ 8 - 1 from rfl, Nat.and_two_pow_sub_one_eq_mod, Nat.mod_eq_of_lt hx]
                rw [e _ (by omega), e _ (by omega)] at h2
                omega
              simp only [nI_clamp (show n + 1 < 2 ^ 31 by omega)]
              refine fo_head0 U lt B F A se R (upd Oa.1 (n + 1) (-1), Oa.2) V al dr (n + 1) (m ||| 2 ^ j) _ (by omega) pk_us ?_
              have hall := fo_all (sc := 2 ^ (32 - 4 * gl)) (e := e) (P := P * (fcN F.2 (se 2)) j s) (path := path ++ [j]) (b := b) (hv _ hm2) hs2 hlt2
              have hpv : P * (fcN F.2 (se 2)) j s * vt (m ||| 2 ^ j) ((nxN F.2 (se 2) s0) j s) = P * vOf (fcN F.2 (se 2)) (nxN F.2 (se 2) s0) vt m s j := by unfold vOf; rw [Nat.mul_assoc]
              have hpa : path ++ [j] ++ grow F.1 (lvN F.2 (se 2) F.1) gl (fcN F.2 (se 2)) (nxN F.2 (se 2) s0) vt (e + 1) (m ||| 2 ^ j) ((nxN F.2 (se 2) s0) j s) = path ++ j :: grow F.1 (lvN F.2 (se 2) F.1) gl (fcN F.2 (se 2)) (nxN F.2 (se 2) s0) vt (e + 1) (m ||| 2 ^ j) ((nxN F.2 (se 2) s0) j s) := by simp
              rw [hpv, hpa, ← hap] at hall
              refine ihe (n + 1) (by omega) F.1 0 (by omega) (upd Oa.1 (n + 1) (-1), Oa.2) b (m ||| 2 ^ j) ((nxN F.2 (se 2) s0) j s) (P * (fcN F.2 (se 2)) j s) (path ++ [j]) hm2 hkk hs2 hlt2 hP2 (by rw [List.length_append, hl]; rfl) (fun k hk => ?_) a3 a4 a5 hBa hb (fun O3 x3 hK3 hB3 hb3 => ?_)
              · show upd Oa.1 (n + 1) (-1) k = _
                rw [pk_un (by omega)]
                by_cases q : k = n
                · subst q
                  rw [hra, ← hl, getD_app1]
                · rw [hKa.1 k (by omega), hp k (by omega), getD_app (by omega)]
              · rw [show nI (n + 1) + -1 = nI n by rw [← nI_1, Int32.add_assoc, show (1 : Int32) + -1 = 0 from rfl, Int32.add_zero]]
                rw [hall] at hB3 hb3
                have hK4 : Kp n Oa (upd Oa.1 (n + 1) (-1), Oa.2) := ⟨fun k hk => pk_un (by omega), fun k hk => ⟨rfl, rfl, rfl⟩⟩
                refine next O3 x3 (hKa.trans (hK4.trans hK3.mono)) ?_ hB3 hb3
                rw [hK3.1 n (by omega)]
                show upd Oa.1 (n + 1) (-1) n = _
                rw [pk_un (by omega), hra]
        · have hdone : gl ≤ cnt8 ((m ||| 2 ^ j) &&& (lvN F.2 (se 2) F.1)) := Nat.le_of_not_lt fun q => c_153 (nI_lt q (by omega))
          have hgl : cnt8 ((m ||| 2 ^ j) &&& (lvN F.2 (se 2) F.1)) = gl := by omega
          have hvt1 : vt (m ||| 2 ^ j) ((nxN F.2 (se 2) s0) j s) = 1 := by rw [hv1]; unfold vrec; rw [if_pos hdone]
          have hvo : vOf (fcN F.2 (se 2)) (nxN F.2 (se 2) s0) vt m s j = (fcN F.2 (se 2)) j s := by unfold vOf; rw [hvt1, Nat.mul_one]
          rw [hgl] at a5 hch
          refine go_aload_n dX12_findOrder_156 rfl ?_
          refine go_getf fX12_58 dX12_findOrder_157 rfl rfl ?_
          refine go_iload_n dX12_findOrder_160 rfl ?_
          refine go_iconst (1) dX12_findOrder_161 (by decide) ?_
          refine go_iadd dX12_findOrder_162 ?_
          rw [nI_1]
          refine go_lald dX12_findOrder_163 rfl (vp_in_nI (by omega) (by decide)) ?_
          simp only [nI_clamp (show n + 1 < 2 ^ 31 by omega)]
          rw [a5]
          refine go_aload_n dX12_findOrder_164 rfl ?_
          refine go_getf fX12_206 dX12_findOrder_165 rfl rfl ?_
          rw [hBa.1]
          refine go_lcmp dX12_findOrder_168 ?_
          refine go_if_le 218 dX12_findOrder_169 (by decide) (fun c_169 => ?_) (fun c_169 => ?_)
          · refine go_goto 49 dX12_findOrder_218 (by decide) ?_
            refine next Oa _ hKa hra ?_ ?_
            · rw [hap, if_pos (by rw [hvo]; exact (lNle (by omega) (by omega)).mp ((lg_cmp_le _ _).mp c_169))]; exact hBa
            · rw [hap, if_pos (by rw [hvo]; exact (lNle (by omega) (by omega)).mp ((lg_cmp_le _ _).mp c_169))]; exact hb
          · refine go_aload_n dX12_findOrder_172 rfl ?_
            refine go_iload_n dX12_findOrder_173 rfl ?_
            refine go_iconst (1) dX12_findOrder_174 (by decide) ?_
            refine go_iadd dX12_findOrder_175 ?_
            rw [nI_1]
            refine go_callVs (z := MX12_keeps) dX12_findOrder_176 lX12_217 sX12_keeps (ev_X12_keeps U lt B F A se R Oa V al dr (n + 1) (by omega)) rfl rfl rfl ⟨_, _, rfl⟩ rfl rfl (fun v w1 h => by obtain ⟨-, br2, rfl, -⟩ := h; rfl) (fun v_176 w_176 h_176 => ?_)
            obtain ⟨rfl, br2, rfl, hbr⟩ := h_176
            refine go_goto 218 dX12_findOrder_179 (by decide) ?_
            refine go_goto 49 dX12_findOrder_218 (by decide) ?_
            have hgt : b.1 < P * (fcN F.2 (se 2)) j s * 2 ^ (32 - 4 * gl) := Nat.lt_of_not_le fun q => c_169 ((lg_cmp_le _ _).mpr ((lNle (by omega) (by omega)).mpr q))
            refine next (Oa.1, Oa.2.1, Oa.2.2.1, Oa.2.2.2.1, br2, nI (n + 1), Oa.2.2.2.1 (n + 1)) _ ⟨fun k hk => hKa.1 k hk, fun k hk => hKa.2 k hk⟩ hra ?_ ?_
            · rw [hap, if_neg (by rw [hvo]; omega), grow_nil hdone]
              refine ⟨?_, ?_, fun i hi => ?_⟩
              · show Oa.2.2.2.1 (n + 1) = _
                rw [a5, hvo]
              · show nI (n + 1) = _
                rw [List.length_append, hl, if_neg (by simp)]
                rfl
              · show br2 i = _
                rw [List.length_append, hl] at hi
                have hi : i < n + 1 := hi
                rw [hbr i hi]
                by_cases q : i = n
                · subst q
                  rw [hra, ← hl, getD_app1]
                · rw [hKa.1 i (by omega), hp i (by omega), getD_app (by omega)]
            · rw [hap, if_neg (by rw [hvo]; omega)]
              show P * vOf (fcN F.2 (se 2)) (nxN F.2 (se 2) s0) vt m s j * 2 ^ (32 - 4 * gl) ≤ 2 ^ 32
              rw [hvo]
              exact hch
      · refine go_iincN (1) dX12_findOrder_100 rfl (by decide) (by decide) ?_
        refine go_goto 84 dX12_findOrder_103 (by decide) ?_
        have hbit := bit_f c_97
        have hap : apF F.1 (lvN F.2 (se 2) F.1) gl (fcN F.2 (se 2)) (nxN F.2 (se 2) s0) vt (2 ^ (32 - 4 * gl)) (e + 1) m s P path j b = b := by unfold apF; rw [if_pos hbit]
        rw [nI_1]
        have hK := Kp.refl n O
        have ih2 := ih (j + 1) (by omega) O b m s P path hm hc hs hw hP hl hp hO1 hO2 hO3 hB hb
        refine ih2 (fun O3 x3 hK3 hB3 hb3 => cont O3 x3 hK3 ?_ ?_)
        · unfold foF; rw [hap]; exact hB3
        · unfold foF; rw [hap]; exact hb3
