theorem go_iincN {X : (Nat → Nat) → State → (Nat → Prop) → Prop} {M : MD} {Q : Option Value → List AE → Prop} {n0 cn sn pc : Nat} {L : List (Option Value)} {st : List Value} {w : List AE} {i : Nat} {n : Int} {x : Int32} (y : Int32) (hd : decode M.2.1 pc = .ok (.iinc i n, 3)) (hx : L[i]? = some (some (.int x))) (hv : Int32.ofInt n = y) (hn : i < M.2.2.1) (k : Go X M Q n0 cn sn (pc + 3) (s1 i (.int (x + y)) 0 L) st w) : Go X M Q n0 cn sn pc L st w := go_iinc (x + y) hd hx (by rw [hv]) hn k
section Cut
variable {X : (Nat → Nat) → State → (Nat → Prop) → Prop} {M : MD} {Q : Option Value → List AE → Prop} {n0 cn sn pc : Nat} {L : List (Option Value)} {st : List Value} {w : List AE}
/-- both arms of a choice meet at J with an int on the stack -/
theorem go_cut2 {J : Nat} {a b : Value} (P : Int32 → Prop) (k : ∀ x, P x → Go X M Q n0 cn sn J L (.int x :: st) w) (arm : (∀ x, P x → Go X M Q n0 cn sn J L (.int x :: st) w) → Go X M Q n0 cn sn pc L (a :: b :: st) w) : Go X M Q n0 cn sn pc L (a :: b :: st) w := arm k
theorem go_cut1 {J : Nat} {a : Value} (P : Int32 → Prop) (k : ∀ x, P x → Go X M Q n0 cn sn J L (.int x :: st) w) (arm : (∀ x, P x → Go X M Q n0 cn sn J L (.int x :: st) w) → Go X M Q n0 cn sn pc L (a :: st) w) : Go X M Q n0 cn sn pc L (a :: st) w := arm k
end Cut
theorem vin_of {i s : Int32} {n : Nat} (h0 : ¬ i < 0) (h1 : ¬ s ≤ i) (hs : s.toInt ≤ n) : vp_in i n := by
  rw [vp_in_iff]
  rw [Int32.lt_iff_toInt_lt] at h0
  rw [Int32.le_iff_toInt_le] at h1
  have : (0 : Int32).toInt = 0 := rfl
  omega
def sixI (c s f : Int32) : Int32 := if c = 3 then (if 0 < (if 8 + s - f < 16 then 8 + s - f else 16) then (if 8 + s - f < 16 then 8 + s - f else 16) else 0) else 16
def strI (c s a : Int32) : Int32 := if c = 3 then (if s ≤ 0 then 0 else s - 1) else if (c = 1 ∨ c = 2) ∧ s < a then s + 1 else s
def kinI (b : Int32) : Int32 := if b = 102 then 0 else if b = 99 then 1 else if b = 114 then 2 else if b = 100 then 3 else -1
def fitN (j : Nat) (b : Int32) : Bool := match j with
  | 0 => decide (¬ kinI b = -1)
  | 1 => decide (¬ b < 48 ∧ ¬ 57 < b)
  | 2 => decide (¬ b < 48 ∧ ¬ 57 < b)
  | 3 => decide (b = 103 ∨ b = 105)
  | 4 => decide ((¬ b < 48 ∧ b ≤ 55) ∨ b = 46)
  | _ => decide (b = 59)
def ansI (kind guilty goods bribe : Int32) : Int32 := if kind = 3 then 4 else if kind = 1 ∧ guilty = 1 then 1 else if kind = 2 ∧ ¬ goods < bribe then 2 else 3
def cutI (form v : Int32) : Int32 := if form = 0 then v.toInt8.toInt32 else if form = 1 then v.toInt16.toInt32 else v
def seedI (s : Int32) : Int32 := 1103515245 * s + 12345
def lotI (s : Int32) : Int32 := ((seedI s).toUInt32 >>> ((16 : Int32).toUInt32 &&& Int32.toUInt32 31)).toInt32 - ((seedI s).toUInt32 >>> ((16 : Int32).toUInt32 &&& Int32.toUInt32 31)).toInt32 / 16 * 16
set_option maxRecDepth 100000 in
theorem ev_X4_whoAt (sz fp i : Int32) (f : Nat → Int32) (hs : sz.toInt ≤ (12 : Nat)) : Ev MX4_whoAt [.ref 0, .int i] [zO 3 [.ref 1, .int sz, .int fp], zI 12 f] (Ri [zO 3 [.ref 1, .int sz, .int fp], zI 12 f] (if i < 0 ∨ sz ≤ i then -1 else f i.toNatClampNeg)) := by
  refine ev_of bX4_whoAt [some (.ref 0), some (.int i)] (Nat.le_of_ble_eq_true rfl) rfl ?_
  refine go_iload_n dX4_whoAt_0 rfl ?_
  refine go_if_lt 21 dX4_whoAt_1 (by decide) (fun c_1 => ?_) (fun c_1 => ?_)
  · refine go_iconst (-1) dX4_whoAt_21 (by decide) ?_
    refine go_ireturn dX4_whoAt_22 rfl rfl (Nat.le_of_ble_eq_true rfl) (Nat.le_of_ble_eq_true rfl) ?_
    exact ⟨by simp [*], rfl⟩
  · refine go_iload_n dX4_whoAt_4 rfl ?_
    refine go_aload_n dX4_whoAt_5 rfl ?_
    refine go_getf fX4_30 dX4_whoAt_6 rfl rfl ?_
    refine go_icmp_ge 21 dX4_whoAt_9 (by decide) (fun c_9 => ?_) (fun c_9 => ?_)
    · refine go_iconst (-1) dX4_whoAt_21 (by decide) ?_
      refine go_ireturn dX4_whoAt_22 rfl rfl (Nat.le_of_ble_eq_true rfl) (Nat.le_of_ble_eq_true rfl) ?_
      exact ⟨by simp [*], rfl⟩
    · refine go_aload_n dX4_whoAt_12 rfl ?_
      refine go_getf fX4_9 dX4_whoAt_13 rfl rfl ?_
      refine go_iload_n dX4_whoAt_16 rfl ?_
      refine go_iald dX4_whoAt_17 rfl (vin_of c_1 c_9 hs) ?_
      refine go_goto 22 dX4_whoAt_18 (by decide) ?_
      refine go_ireturn dX4_whoAt_22 rfl rfl (Nat.le_of_ble_eq_true rfl) (Nat.le_of_ble_eq_true rfl) ?_
      exact ⟨by simp [*], rfl⟩
set_option maxRecDepth 100000 in
theorem ev_X10_byteAt (n : Nat) (sz i : Int32) (f : Nat → Int32) (hs : sz.toInt ≤ n) : Ev MX10_byteAt [.ref 0, .int i] [zO 8 [.ref 1, .int sz], zI n f] (Ri [zO 8 [.ref 1, .int sz], zI n f] (if i < 0 ∨ sz ≤ i then -1 else f i.toNatClampNeg)) := by
  refine ev_of bX10_byteAt [some (.ref 0), some (.int i)] (Nat.le_of_ble_eq_true rfl) rfl ?_
  refine go_iload_n dX10_byteAt_0 rfl ?_
  refine go_if_lt 21 dX10_byteAt_1 (by decide) (fun c_1 => ?_) (fun c_1 => ?_)
  · refine go_iconst (-1) dX10_byteAt_21 (by decide) ?_
    refine go_ireturn dX10_byteAt_22 rfl rfl (Nat.le_of_ble_eq_true rfl) (Nat.le_of_ble_eq_true rfl) ?_
    exact ⟨by simp [*], rfl⟩
  · refine go_iload_n dX10_byteAt_4 rfl ?_
    refine go_aload_n dX10_byteAt_5 rfl ?_
    refine go_getf fX10_21 dX10_byteAt_6 rfl rfl ?_
    refine go_icmp_ge 21 dX10_byteAt_9 (by decide) (fun c_9 => ?_) (fun c_9 => ?_)
    · refine go_iconst (-1) dX10_byteAt_21 (by decide) ?_
      refine go_ireturn dX10_byteAt_22 rfl rfl (Nat.le_of_ble_eq_true rfl) (Nat.le_of_ble_eq_true rfl) ?_
      exact ⟨by simp [*], rfl⟩
    · refine go_aload_n dX10_byteAt_12 rfl ?_
      refine go_getf fX10_15 dX10_byteAt_13 rfl rfl ?_
      refine go_iload_n dX10_byteAt_16 rfl ?_
      refine go_iald dX10_byteAt_17 rfl (vin_of c_1 c_9 hs) ?_
      refine go_goto 22 dX10_byteAt_18 (by decide) ?_
      refine go_ireturn dX10_byteAt_22 rfl rfl (Nat.le_of_ble_eq_true rfl) (Nat.le_of_ble_eq_true rfl) ?_
      exact ⟨by simp [*], rfl⟩
set_option maxRecDepth 100000 in
theorem ev_X10_isFull (n : Nat) (sz : Int32) (f : Nat → Int32) : Ev MX10_isFull [.ref 0] [zO 8 [.ref 1, .int sz], zI n f] (Ri [zO 8 [.ref 1, .int sz], zI n f] (if sz < nI n then 0 else 1)) := by
  refine ev_of bX10_isFull [some (.ref 0)] (Nat.le_of_ble_eq_true rfl) rfl ?_
  refine go_aload_n dX10_isFull_0 rfl ?_
  refine go_getf fX10_21 dX10_isFull_1 rfl rfl ?_
  refine go_aload_n dX10_isFull_4 rfl ?_
  refine go_getf fX10_15 dX10_isFull_5 rfl rfl ?_
  refine go_alen (nI n) dX10_isFull_8 rfl rfl ?_
  refine go_icmp_lt 16 dX10_isFull_9 (by decide) (fun c_9 => ?_) (fun c_9 => ?_)
  · refine go_iconst (0) dX10_isFull_16 (by decide) ?_
    refine go_ireturn dX10_isFull_17 rfl rfl (Nat.le_of_ble_eq_true rfl) (Nat.le_of_ble_eq_true rfl) ?_
    exact ⟨by simp [*], rfl⟩
  · refine go_iconst (1) dX10_isFull_12 (by decide) ?_
    refine go_goto 17 dX10_isFull_13 (by decide) ?_
    refine go_ireturn dX10_isFull_17 rfl rfl (Nat.le_of_ble_eq_true rfl) (Nat.le_of_ble_eq_true rfl) ?_
    exact ⟨by simp [*], rfl⟩
set_option maxRecDepth 100000 in
theorem ev_X10_push (n k : Nat) (hk : k < n) (hn : n < 2 ^ 31) (b : Int32) (f : Nat → Int32) : Ev MX10_push [.ref 0, .int b] [zO 8 [.ref 1, .int (nI k)], zI n f] (Rw none [zO 8 [.ref 1, .int (nI (k + 1))], zI n (upd f k b)]) := by
  refine ev_of bX10_push [some (.ref 0), some (.int b)] (Nat.le_of_ble_eq_true rfl) rfl ?_
  refine go_aload_n dX10_push_0 rfl ?_
  refine go_getf fX10_21 dX10_push_1 rfl rfl ?_
  refine go_aload_n dX10_push_4 rfl ?_
  refine go_getf fX10_15 dX10_push_5 rfl rfl ?_
  refine go_alen (nI n) dX10_push_8 rfl rfl ?_
  refine go_icmp_ge 32 dX10_push_9 (by decide) (fun c_9 => absurd c_9 (nI_ge hk hn)) (fun _ => ?_)
  refine go_aload_n dX10_push_12 rfl ?_
  refine go_getf fX10_15 dX10_push_13 rfl rfl ?_
  refine go_aload_n dX10_push_16 rfl ?_
  refine go_getf fX10_21 dX10_push_17 rfl rfl ?_
  refine go_iload_n dX10_push_20 rfl ?_
  refine go_iast dX10_push_21 rfl (vp_in_nI hk hn) ?_
  refine go_aload_n dX10_push_22 rfl ?_
  refine go_dup dX10_push_23 rfl ?_
  refine go_getf fX10_21 dX10_push_24 rfl rfl ?_
  refine go_iconst (1) dX10_push_27 (by decide) ?_
  refine go_iadd dX10_push_28 ?_
  refine go_putf fX10_21 dX10_push_29 rfl (fun _ _ _ h => by cases h; rfl) (fun _ => rfl) (fun _ => rfl) (Nat.le_of_ble_eq_true rfl) ?_
  refine go_return dX10_push_32 rfl (Nat.le_of_ble_eq_true rfl) (Nat.le_of_ble_eq_true rfl) ?_
  refine ⟨rfl, ?_⟩
  simp only [nI_clamp (Nat.lt_trans hk hn), ← nI_1]
  rfl
set_option maxRecDepth 100000 in
theorem ev_X2_part (sz fp i k : Int32) (f : Nat → Int32) : Ev MX2_part [.ref 0, .int i, .int k] [zO 1 [.ref 1, .int sz, .int fp], zI 40 f] (Ri [zO 1 [.ref 1, .int sz, .int fp], zI 40 f] (if i * 5 + k < 0 ∨ 40 ≤ i * 5 + k then -1 else f (i * 5 + k).toNatClampNeg)) := by
  refine ev_of bX2_part [some (.ref 0), some (.int i), some (.int k), none] (Nat.le_of_ble_eq_true rfl) rfl ?_
  refine go_iload_n dX2_part_0 rfl ?_
  refine go_iconst (5) dX2_part_1 (by decide) ?_
  refine go_imul dX2_part_2 ?_
  refine go_iload_n dX2_part_3 rfl ?_
  refine go_iadd dX2_part_4 ?_
  refine go_istore_n dX2_part_5 (by decide) ?_
  refine go_iload_n dX2_part_6 rfl ?_
  refine go_if_lt 28 dX2_part_7 (by decide) (fun c_7 => ?_) (fun c_7 => ?_)
  · refine go_iconst (-1) dX2_part_28 (by decide) ?_
    refine go_ireturn dX2_part_29 rfl rfl (Nat.le_of_ble_eq_true rfl) (Nat.le_of_ble_eq_true rfl) ?_
    exact ⟨by simp [*], rfl⟩
  · refine go_iload_n dX2_part_10 rfl ?_
    refine go_aload_n dX2_part_11 rfl ?_
    refine go_getf fX2_9 dX2_part_12 rfl rfl ?_
    refine go_alen 40 dX2_part_15 rfl rfl ?_
    refine go_icmp_ge 28 dX2_part_16 (by decide) (fun c_16 => ?_) (fun c_16 => ?_)
    · refine go_iconst (-1) dX2_part_28 (by decide) ?_
      refine go_ireturn dX2_part_29 rfl rfl (Nat.le_of_ble_eq_true rfl) (Nat.le_of_ble_eq_true rfl) ?_
      exact ⟨by simp [*], rfl⟩
    · refine go_aload_n dX2_part_19 rfl ?_
      refine go_getf fX2_9 dX2_part_20 rfl rfl ?_
      refine go_iload_n dX2_part_23 rfl ?_
      refine go_iald dX2_part_24 rfl (vin_of c_7 c_16 (by decide)) ?_
      refine go_goto 29 dX2_part_25 (by decide) ?_
      refine go_ireturn dX2_part_29 rfl rfl (Nat.le_of_ble_eq_true rfl) (Nat.le_of_ble_eq_true rfl) ?_
      exact ⟨by simp [*], rfl⟩
set_option maxRecDepth 100000 in
theorem ev_X2_has (sz fp i : Int32) (f : Nat → Int32) : Ev MX2_has [.ref 0, .int i] [zO 1 [.ref 1, .int sz, .int fp], zI 40 f] (Ri [zO 1 [.ref 1, .int sz, .int fp], zI 40 f] (if i < 0 ∨ sz ≤ i then 0 else 1)) := by
  refine ev_of bX2_has [some (.ref 0), some (.int i)] (Nat.le_of_ble_eq_true rfl) rfl ?_
  refine go_iload_n dX2_has_0 rfl ?_
  refine go_if_lt 16 dX2_has_1 (by decide) (fun c_1 => ?_) (fun c_1 => ?_)
  · refine go_iconst (0) dX2_has_16 (by decide) ?_
    refine go_ireturn dX2_has_17 rfl rfl (Nat.le_of_ble_eq_true rfl) (Nat.le_of_ble_eq_true rfl) ?_
    exact ⟨by simp [*], rfl⟩
  · refine go_iload_n dX2_has_4 rfl ?_
    refine go_aload_n dX2_has_5 rfl ?_
    refine go_getf fX2_34 dX2_has_6 rfl rfl ?_
    refine go_icmp_ge 16 dX2_has_9 (by decide) (fun c_9 => ?_) (fun c_9 => ?_)
    · refine go_iconst (0) dX2_has_16 (by decide) ?_
      refine go_ireturn dX2_has_17 rfl rfl (Nat.le_of_ble_eq_true rfl) (Nat.le_of_ble_eq_true rfl) ?_
      exact ⟨by simp [*], rfl⟩
    · refine go_iconst (1) dX2_has_12 (by decide) ?_
      refine go_goto 17 dX2_has_13 (by decide) ?_
      refine go_ireturn dX2_has_17 rfl rfl (Nat.le_of_ble_eq_true rfl) (Nat.le_of_ble_eq_true rfl) ?_
      exact ⟨by simp [*], rfl⟩
set_option maxRecDepth 100000 in
theorem ev_X8_isWin (c : Int32) : Ev MX8_isWin [.int c] [] (Ri [] (if c = 1 ∨ c = 2 ∨ c = 3 then 1 else 0)) := by
  refine ev_of bX8_isWin [some (.int c)] (Nat.le_of_ble_eq_true rfl) rfl ?_
  refine go_iload_n dX8_isWin_0 rfl ?_
  refine go_iconst (1) dX8_isWin_1 (by decide) ?_
  refine go_icmp_eq 15 dX8_isWin_2 (by decide) (fun c_2 => ?_) (fun c_2 => ?_)
  · refine go_iconst (1) dX8_isWin_15 (by decide) ?_
    refine go_goto 20 dX8_isWin_16 (by decide) ?_
    refine go_ireturn dX8_isWin_20 rfl rfl (Nat.le_of_ble_eq_true rfl) (Nat.le_of_ble_eq_true rfl) ?_
    exact ⟨by simp [*], rfl⟩
  · refine go_iload_n dX8_isWin_5 rfl ?_
    refine go_iconst (2) dX8_isWin_6 (by decide) ?_
    refine go_icmp_eq 15 dX8_isWin_7 (by decide) (fun c_7 => ?_) (fun c_7 => ?_)
    · refine go_iconst (1) dX8_isWin_15 (by decide) ?_
      refine go_goto 20 dX8_isWin_16 (by decide) ?_
      refine go_ireturn dX8_isWin_20 rfl rfl (Nat.le_of_ble_eq_true rfl) (Nat.le_of_ble_eq_true rfl) ?_
      exact ⟨by simp [*], rfl⟩
    · refine go_iload_n dX8_isWin_10 rfl ?_
      refine go_iconst (3) dX8_isWin_11 (by decide) ?_
      refine go_icmp_ne 19 dX8_isWin_12 (by decide) (fun c_12 => ?_) (fun c_12 => ?_)
      · refine go_iconst (0) dX8_isWin_19 (by decide) ?_
        refine go_ireturn dX8_isWin_20 rfl rfl (Nat.le_of_ble_eq_true rfl) (Nat.le_of_ble_eq_true rfl) ?_
        exact ⟨by simp [*], rfl⟩
      · refine go_iconst (1) dX8_isWin_15 (by decide) ?_
        refine go_goto 20 dX8_isWin_16 (by decide) ?_
        refine go_ireturn dX8_isWin_20 rfl rfl (Nat.le_of_ble_eq_true rfl) (Nat.le_of_ble_eq_true rfl) ?_
        exact ⟨by simp [*], rfl⟩
set_option maxRecDepth 100000 in
theorem ev_X8_sixteenths (c s f : Int32) : Ev MX8_sixteenths [.int c, .int s, .int f] [] (Ri [] (sixI c s f)) := by
  refine ev_of bX8_sixteenths [some (.int c), some (.int s), some (.int f)] (Nat.le_of_ble_eq_true rfl) rfl ?_
  refine go_iload_n dX8_sixteenths_0 rfl ?_
  refine go_iconst (3) dX8_sixteenths_1 (by decide) ?_
  refine go_icmp_eq 8 dX8_sixteenths_2 (by decide) (fun c_2 => ?_) (fun c_2 => ?_)
  · refine go_iconst (0) dX8_sixteenths_8 (by decide) ?_
    refine go_bipush (16) dX8_sixteenths_9 (by decide) ?_
    refine go_bipush (8) dX8_sixteenths_11 (by decide) ?_
    refine go_iload_n dX8_sixteenths_13 rfl ?_
    refine go_iadd dX8_sixteenths_14 ?_
    refine go_iload_n dX8_sixteenths_15 rfl ?_
    refine go_isub dX8_sixteenths_16 ?_
    refine go_min dX8_sixteenths_17 lX8_11 (Nat.le_of_ble_eq_true rfl) (Nat.le_of_ble_eq_true rfl) (Nat.le_of_ble_eq_true rfl) (Nat.le_of_ble_eq_true rfl) ?_
    refine go_max dX8_sixteenths_20 lX8_17 (Nat.le_of_ble_eq_true rfl) (Nat.le_of_ble_eq_true rfl) (Nat.le_of_ble_eq_true rfl) (Nat.le_of_ble_eq_true rfl) ?_
    refine go_ireturn dX8_sixteenths_23 rfl rfl (Nat.le_of_ble_eq_true rfl) (Nat.le_of_ble_eq_true rfl) ?_
    exact ⟨by simp [sixI, *], rfl⟩
  · refine go_bipush (16) dX8_sixteenths_5 (by decide) ?_
    refine go_ireturn dX8_sixteenths_7 rfl rfl (Nat.le_of_ble_eq_true rfl) (Nat.le_of_ble_eq_true rfl) ?_
    exact ⟨by simp [sixI, *], rfl⟩
set_option maxRecDepth 100000 in
theorem ev_X8_strongBehind (c s a : Int32) : Ev MX8_strongBehind [.int c, .int s, .int a] [] (Ri [] (strI c s a)) := by
  refine ev_of bX8_strongBehind [some (.int c), some (.int s), some (.int a), none] (Nat.le_of_ble_eq_true rfl) rfl ?_
  refine go_iload_n dX8_strongBehind_0 rfl ?_
  refine go_iconst (3) dX8_strongBehind_1 (by decide) ?_
  refine go_icmp_ne 17 dX8_strongBehind_2 (by decide) (fun c_2 => ?_) (fun c_2 => ?_)
  · refine go_iload_n dX8_strongBehind_17 rfl ?_
    refine go_iconst (1) dX8_strongBehind_18 (by decide) ?_
    refine go_icmp_eq 27 dX8_strongBehind_19 (by decide) (fun c_19 => ?_) (fun c_19 => ?_)
    · refine go_iconst (1) dX8_strongBehind_27 (by decide) ?_
      refine go_goto 32 dX8_strongBehind_28 (by decide) ?_
      refine go_istore_n dX8_strongBehind_32 (by decide) ?_
      refine go_iload_n dX8_strongBehind_33 rfl ?_
      refine go_if_eq 48 dX8_strongBehind_34 (by decide) (fun c_34 => ?_) (fun c_34 => ?_)
      · refine go_iload_n dX8_strongBehind_48 rfl ?_
        refine go_ireturn dX8_strongBehind_49 rfl rfl (Nat.le_of_ble_eq_true rfl) (Nat.le_of_ble_eq_true rfl) ?_
        exact ⟨by first | (simp_all [strI]; done) | (simp [strI, *]; done) | (simp only [strI, if_pos c_2, if_neg c_6]), rfl⟩
      · refine go_iload_n dX8_strongBehind_37 rfl ?_
        refine go_iload_n dX8_strongBehind_38 rfl ?_
        refine go_icmp_ge 48 dX8_strongBehind_39 (by decide) (fun c_39 => ?_) (fun c_39 => ?_)
        · refine go_iload_n dX8_strongBehind_48 rfl ?_
          refine go_ireturn dX8_strongBehind_49 rfl rfl (Nat.le_of_ble_eq_true rfl) (Nat.le_of_ble_eq_true rfl) ?_
          exact ⟨by first | (simp_all [strI]; done) | (simp [strI, *]; done) | (simp only [strI, if_pos c_2, if_neg c_6]), rfl⟩
        · refine go_iload_n dX8_strongBehind_42 rfl ?_
          refine go_iconst (1) dX8_strongBehind_43 (by decide) ?_
          refine go_iadd dX8_strongBehind_44 ?_
          refine go_goto 49 dX8_strongBehind_45 (by decide) ?_
          refine go_ireturn dX8_strongBehind_49 rfl rfl (Nat.le_of_ble_eq_true rfl) (Nat.le_of_ble_eq_true rfl) ?_
          exact ⟨by first | (simp_all [strI]; done) | (simp [strI, *]; done) | (simp only [strI, if_pos c_2, if_neg c_6]), rfl⟩
    · refine go_iload_n dX8_strongBehind_22 rfl ?_
      refine go_iconst (2) dX8_strongBehind_23 (by decide) ?_
      refine go_icmp_ne 31 dX8_strongBehind_24 (by decide) (fun c_24 => ?_) (fun c_24 => ?_)
      · refine go_iconst (0) dX8_strongBehind_31 (by decide) ?_
        refine go_istore_n dX8_strongBehind_32 (by decide) ?_
        refine go_iload_n dX8_strongBehind_33 rfl ?_
        refine go_if_eq 48 dX8_strongBehind_34 (by decide) (fun c_34 => ?_) (fun c_34 => ?_)
        · refine go_iload_n dX8_strongBehind_48 rfl ?_
          refine go_ireturn dX8_strongBehind_49 rfl rfl (Nat.le_of_ble_eq_true rfl) (Nat.le_of_ble_eq_true rfl) ?_
          exact ⟨by first | (simp_all [strI]; done) | (simp [strI, *]; done) | (simp only [strI, if_pos c_2, if_neg c_6]), rfl⟩
        · refine go_iload_n dX8_strongBehind_37 rfl ?_
          refine go_iload_n dX8_strongBehind_38 rfl ?_
          refine go_icmp_ge 48 dX8_strongBehind_39 (by decide) (fun c_39 => ?_) (fun c_39 => ?_)
          · refine go_iload_n dX8_strongBehind_48 rfl ?_
            refine go_ireturn dX8_strongBehind_49 rfl rfl (Nat.le_of_ble_eq_true rfl) (Nat.le_of_ble_eq_true rfl) ?_
            exact ⟨by first | (simp_all [strI]; done) | (simp [strI, *]; done) | (simp only [strI, if_pos c_2, if_neg c_6]), rfl⟩
          · refine go_iload_n dX8_strongBehind_42 rfl ?_
            refine go_iconst (1) dX8_strongBehind_43 (by decide) ?_
            refine go_iadd dX8_strongBehind_44 ?_
            refine go_goto 49 dX8_strongBehind_45 (by decide) ?_
            refine go_ireturn dX8_strongBehind_49 rfl rfl (Nat.le_of_ble_eq_true rfl) (Nat.le_of_ble_eq_true rfl) ?_
            exact ⟨by first | (simp_all [strI]; done) | (simp [strI, *]; done) | (simp only [strI, if_pos c_2, if_neg c_6]), rfl⟩
      · refine go_iconst (1) dX8_strongBehind_27 (by decide) ?_
        refine go_goto 32 dX8_strongBehind_28 (by decide) ?_
        refine go_istore_n dX8_strongBehind_32 (by decide) ?_
        refine go_iload_n dX8_strongBehind_33 rfl ?_
        refine go_if_eq 48 dX8_strongBehind_34 (by decide) (fun c_34 => ?_) (fun c_34 => ?_)
        · refine go_iload_n dX8_strongBehind_48 rfl ?_
          refine go_ireturn dX8_strongBehind_49 rfl rfl (Nat.le_of_ble_eq_true rfl) (Nat.le_of_ble_eq_true rfl) ?_
          exact ⟨by first | (simp_all [strI]; done) | (simp [strI, *]; done) | (simp only [strI, if_pos c_2, if_neg c_6]), rfl⟩
        · refine go_iload_n dX8_strongBehind_37 rfl ?_
          refine go_iload_n dX8_strongBehind_38 rfl ?_
          refine go_icmp_ge 48 dX8_strongBehind_39 (by decide) (fun c_39 => ?_) (fun c_39 => ?_)
          · refine go_iload_n dX8_strongBehind_48 rfl ?_
            refine go_ireturn dX8_strongBehind_49 rfl rfl (Nat.le_of_ble_eq_true rfl) (Nat.le_of_ble_eq_true rfl) ?_
            exact ⟨by first | (simp_all [strI]; done) | (simp [strI, *]; done) | (simp only [strI, if_pos c_2, if_neg c_6]), rfl⟩
          · refine go_iload_n dX8_strongBehind_42 rfl ?_
            refine go_iconst (1) dX8_strongBehind_43 (by decide) ?_
            refine go_iadd dX8_strongBehind_44 ?_
            refine go_goto 49 dX8_strongBehind_45 (by decide) ?_
            refine go_ireturn dX8_strongBehind_49 rfl rfl (Nat.le_of_ble_eq_true rfl) (Nat.le_of_ble_eq_true rfl) ?_
            exact ⟨by first | (simp_all [strI]; done) | (simp [strI, *]; done) | (simp only [strI, if_pos c_2, if_neg c_6]), rfl⟩
  · refine go_iload_n dX8_strongBehind_5 rfl ?_
    refine go_if_le 15 dX8_strongBehind_6 (by decide) (fun c_6 => ?_) (fun c_6 => ?_)
    · refine go_iconst (0) dX8_strongBehind_15 (by decide) ?_
      refine go_ireturn dX8_strongBehind_16 rfl rfl (Nat.le_of_ble_eq_true rfl) (Nat.le_of_ble_eq_true rfl) ?_
      exact ⟨by first | (simp_all [strI]; done) | (simp [strI, *]; done) | (simp only [strI, if_pos c_2, if_neg c_6]), rfl⟩
    · refine go_iload_n dX8_strongBehind_9 rfl ?_
      refine go_iconst (1) dX8_strongBehind_10 (by decide) ?_
      refine go_isub dX8_strongBehind_11 ?_
      refine go_goto 16 dX8_strongBehind_12 (by decide) ?_
      refine go_ireturn dX8_strongBehind_16 rfl rfl (Nat.le_of_ble_eq_true rfl) (Nat.le_of_ble_eq_true rfl) ?_
      exact ⟨by first | (simp_all [strI]; done) | (simp [strI, *]; done) | (simp only [strI, if_pos c_2, if_neg c_6]), rfl⟩
set_option maxRecDepth 100000 in
theorem ev_X9_allows (k v : Int32) : Ev MX9_allows [.int k, .int v] [] (Ri [] (if k = 1 then (if v < 1 ∨ 8 < v then 0 else 1) else (if v < 0 ∨ 9 < v then 0 else 1))) := by
  refine ev_of bX9_allows [some (.int k), some (.int v)] (Nat.le_of_ble_eq_true rfl) rfl ?_
  refine go_iload_n dX9_allows_0 rfl ?_
  refine go_iconst (1) dX9_allows_1 (by decide) ?_
  refine go_icmp_ne 24 dX9_allows_2 (by decide) (fun c_2 => ?_) (fun c_2 => ?_)
  · refine go_iload_n dX9_allows_24 rfl ?_
    refine go_if_lt 38 dX9_allows_25 (by decide) (fun c_25 => ?_) (fun c_25 => ?_)
    · refine go_iconst (0) dX9_allows_38 (by decide) ?_
      refine go_ireturn dX9_allows_39 rfl rfl (Nat.le_of_ble_eq_true rfl) (Nat.le_of_ble_eq_true rfl) ?_
      exact ⟨by simp [*], rfl⟩
    · refine go_iload_n dX9_allows_28 rfl ?_
      refine go_bipush (9) dX9_allows_29 (by decide) ?_
      refine go_icmp_gt 38 dX9_allows_31 (by decide) (fun c_31 => ?_) (fun c_31 => ?_)
      · refine go_iconst (0) dX9_allows_38 (by decide) ?_
        refine go_ireturn dX9_allows_39 rfl rfl (Nat.le_of_ble_eq_true rfl) (Nat.le_of_ble_eq_true rfl) ?_
        exact ⟨by simp [*], rfl⟩
      · refine go_iconst (1) dX9_allows_34 (by decide) ?_
        refine go_goto 39 dX9_allows_35 (by decide) ?_
        refine go_ireturn dX9_allows_39 rfl rfl (Nat.le_of_ble_eq_true rfl) (Nat.le_of_ble_eq_true rfl) ?_
        exact ⟨by simp [*], rfl⟩
  · refine go_iload_n dX9_allows_5 rfl ?_
    refine go_iconst (1) dX9_allows_6 (by decide) ?_
    refine go_icmp_lt 20 dX9_allows_7 (by decide) (fun c_7 => ?_) (fun c_7 => ?_)
    · refine go_iconst (0) dX9_allows_20 (by decide) ?_
      refine go_goto 39 dX9_allows_21 (by decide) ?_
      refine go_ireturn dX9_allows_39 rfl rfl (Nat.le_of_ble_eq_true rfl) (Nat.le_of_ble_eq_true rfl) ?_
      exact ⟨by simp [*], rfl⟩
    · refine go_iload_n dX9_allows_10 rfl ?_
      refine go_bipush (8) dX9_allows_11 (by decide) ?_
      refine go_icmp_gt 20 dX9_allows_13 (by decide) (fun c_13 => ?_) (fun c_13 => ?_)
      · refine go_iconst (0) dX9_allows_20 (by decide) ?_
        refine go_goto 39 dX9_allows_21 (by decide) ?_
        refine go_ireturn dX9_allows_39 rfl rfl (Nat.le_of_ble_eq_true rfl) (Nat.le_of_ble_eq_true rfl) ?_
        exact ⟨by simp [*], rfl⟩
      · refine go_iconst (1) dX9_allows_16 (by decide) ?_
        refine go_goto 39 dX9_allows_17 (by decide) ?_
        refine go_ireturn dX9_allows_39 rfl rfl (Nat.le_of_ble_eq_true rfl) (Nat.le_of_ble_eq_true rfl) ?_
        exact ⟨by simp [*], rfl⟩
set_option maxRecDepth 100000 in
theorem ev_X9_change (s n b k v : Int32) : Ev MX9_change [.ref 0, .int k, .int v] [zO 7 [.int s, .int n, .int b]] (Rw (some (.int (if k = 0 then s else if k = 1 then n else b))) [zO 7 (if k = 0 then [.int v, .int n, .int b] else if k = 1 then [.int s, .int v, .int b] else [.int s, .int n, .int v])]) := by
  refine ev_of bX9_change [some (.ref 0), some (.int k), some (.int v), none] (Nat.le_of_ble_eq_true rfl) rfl ?_
  refine go_iload_n dX9_change_0 rfl ?_
  refine go_if_ne 17 dX9_change_1 (by decide) (fun c_1 => ?_) (fun c_1 => ?_)
  · refine go_iload_n dX9_change_17 rfl ?_
    refine go_iconst (1) dX9_change_18 (by decide) ?_
    refine go_icmp_ne 35 dX9_change_19 (by decide) (fun c_19 => ?_) (fun c_19 => ?_)
    · refine go_aload_n dX9_change_35 rfl ?_
      refine go_getf fX9_18 dX9_change_36 rfl rfl ?_
      refine go_istore_n dX9_change_39 (by decide) ?_
      refine go_aload_n dX9_change_40 rfl ?_
      refine go_iload_n dX9_change_41 rfl ?_
      refine go_putf fX9_18 dX9_change_42 rfl (fun _ _ _ h => by cases h; rfl) (fun _ => rfl) (fun _ => rfl) (Nat.le_of_ble_eq_true rfl) ?_
      refine go_iload_n dX9_change_45 rfl ?_
      refine go_ireturn dX9_change_46 rfl rfl (Nat.le_of_ble_eq_true rfl) (Nat.le_of_ble_eq_true rfl) ?_
      exact ⟨by simp [*], by simp [*]⟩
    · refine go_aload_n dX9_change_22 rfl ?_
      refine go_getf fX9_15 dX9_change_23 rfl rfl ?_
      refine go_istore_n dX9_change_26 (by decide) ?_
      refine go_aload_n dX9_change_27 rfl ?_
      refine go_iload_n dX9_change_28 rfl ?_
      refine go_putf fX9_15 dX9_change_29 rfl (fun _ _ _ h => by cases h; rfl) (fun _ => rfl) (fun _ => rfl) (Nat.le_of_ble_eq_true rfl) ?_
      refine go_goto 45 dX9_change_32 (by decide) ?_
      refine go_iload_n dX9_change_45 rfl ?_
      refine go_ireturn dX9_change_46 rfl rfl (Nat.le_of_ble_eq_true rfl) (Nat.le_of_ble_eq_true rfl) ?_
      exact ⟨by simp [*], by simp [*]⟩
  · refine go_aload_n dX9_change_4 rfl ?_
    refine go_getf fX9_9 dX9_change_5 rfl rfl ?_
    refine go_istore_n dX9_change_8 (by decide) ?_
    refine go_aload_n dX9_change_9 rfl ?_
    refine go_iload_n dX9_change_10 rfl ?_
    refine go_putf fX9_9 dX9_change_11 rfl (fun _ _ _ h => by cases h; rfl) (fun _ => rfl) (fun _ => rfl) (Nat.le_of_ble_eq_true rfl) ?_
    refine go_goto 45 dX9_change_14 (by decide) ?_
    refine go_iload_n dX9_change_45 rfl ?_
    refine go_ireturn dX9_change_46 rfl rfl (Nat.le_of_ble_eq_true rfl) (Nat.le_of_ble_eq_true rfl) ?_
    exact ⟨by simp [*], by simp [*]⟩
set_option maxRecDepth 100000 in
theorem ev_X3_draw (s : Int32) : Ev MX3_draw [.ref 0, .int 16] [zO 2 [.int s]] (Rw (some (.int (lotI s))) [zO 2 [.int (seedI s)]]) := by
  refine ev_of bX3_draw [some (.ref 0), some (.int 16)] (Nat.le_of_ble_eq_true rfl) rfl ?_
  refine go_aload_n dX3_draw_0 rfl ?_
  refine go_ldc dX3_draw_1 kX3_13 ?_
  refine go_aload_n dX3_draw_3 rfl ?_
  refine go_getf fX3_7 dX3_draw_4 rfl rfl ?_
  refine go_imul dX3_draw_7 ?_
  refine go_sipush (12345) dX3_draw_8 (by decide) ?_
  refine go_iadd dX3_draw_11 ?_
  refine go_putf fX3_7 dX3_draw_12 rfl (fun _ _ _ h => by cases h; rfl) (fun _ => rfl) (fun _ => rfl) (Nat.le_of_ble_eq_true rfl) ?_
  refine go_iload_n dX3_draw_15 rfl ?_
  refine go_if_le 31 dX3_draw_16 (by decide) (fun c_16 => absurd c_16 (by decide)) (fun _ => ?_)
  refine go_aload_n dX3_draw_19 rfl ?_
  refine go_getf fX3_7 dX3_draw_20 rfl rfl ?_
  refine go_bipush (16) dX3_draw_23 (by decide) ?_
  refine go_iushr dX3_draw_25 ?_
  refine go_iload_n dX3_draw_26 rfl ?_
  refine go_irem dX3_draw_27 (by decide) ?_
  refine go_goto 32 dX3_draw_28 (by decide) ?_
  refine go_ireturn dX3_draw_32 rfl rfl (Nat.le_of_ble_eq_true rfl) (Nat.le_of_ble_eq_true rfl) ?_
  exact ⟨rfl, rfl⟩
set_option maxRecDepth 100000 in
theorem ev_X2_kindOf (b : Int32) : Ev MX2_kindOf [.int b] [] (Ri [] (kinI b)) := by
  refine ev_of bX2_kindOf [some (.int b)] (Nat.le_of_ble_eq_true rfl) rfl ?_
  refine go_iload_n dX2_kindOf_0 rfl ?_
  by_cases h1 : b = 99
  · subst h1
    refine go_lookup (off := 45) 46 dX2_kindOf_1 (by decide) (by decide) (by decide) ?_
    refine go_iconst (1) dX2_kindOf_46 (by decide) ?_
    refine go_ireturn dX2_kindOf_47 rfl rfl (Nat.le_of_ble_eq_true rfl) (Nat.le_of_ble_eq_true rfl) ?_
    exact ⟨rfl, rfl⟩
  by_cases h2 : b = 100
  · subst h2
    refine go_lookup (off := 49) 50 dX2_kindOf_1 (by decide) (by decide) (by decide) ?_
    refine go_iconst (3) dX2_kindOf_50 (by decide) ?_
    refine go_ireturn dX2_kindOf_51 rfl rfl (Nat.le_of_ble_eq_true rfl) (Nat.le_of_ble_eq_true rfl) ?_
    exact ⟨rfl, rfl⟩
  by_cases h3 : b = 102
  · subst h3
    refine go_lookup (off := 43) 44 dX2_kindOf_1 (by decide) (by decide) (by decide) ?_
    refine go_iconst (0) dX2_kindOf_44 (by decide) ?_
    refine go_ireturn dX2_kindOf_45 rfl rfl (Nat.le_of_ble_eq_true rfl) (Nat.le_of_ble_eq_true rfl) ?_
    exact ⟨rfl, rfl⟩
  by_cases h4 : b = 114
  · subst h4
    refine go_lookup (off := 47) 48 dX2_kindOf_1 (by decide) (by decide) (by decide) ?_
    refine go_iconst (2) dX2_kindOf_48 (by decide) ?_
    refine go_ireturn dX2_kindOf_49 rfl rfl (Nat.le_of_ble_eq_true rfl) (Nat.le_of_ble_eq_true rfl) ?_
    exact ⟨rfl, rfl⟩
  refine go_lookup (off := 51) 52 dX2_kindOf_1 (by decide) ?_ (by decide) ?_
  · show Op.lookupswitch.offset [(99, 45), (100, 49), (102, 43), (114, 47)] 51 b.toInt = 51
    rw [lv_osw (a := 99) h1 (by decide), lv_osw (a := 100) h2 (by decide), lv_osw (a := 102) h3 (by decide), lv_osw (a := 114) h4 (by decide)]
    rfl
  refine go_iconst (-1) dX2_kindOf_52 (by decide) ?_
  refine go_ireturn dX2_kindOf_53 rfl rfl (Nat.le_of_ble_eq_true rfl) (Nat.le_of_ble_eq_true rfl) ?_
  exact ⟨by simp [kinI, *], rfl⟩
set_option maxRecDepth 100000 in
theorem ev_X2_fits (b : Int32) (j : Nat) (hj : j < 6) : Ev MX2_fits [.int b, .int (nI j)] [] (Ri [] (if fitN j b = true then 1 else 0)) := by
  refine ev_of bX2_fits [some (.int b), some (.int (nI j))] (Nat.le_of_ble_eq_true rfl) rfl ?_
  refine go_iload_n dX2_fits_0 rfl ?_
  match j, hj with
  | 0, _ =>
    refine go_tblIn 36 dX2_fits_1 (by decide) (by decide) rfl (by decide) ?_
    refine go_iload_n dX2_fits_36 rfl ?_
    refine go_callSi (z := MX2_kindOf) [] dX2_fits_37 lX2_39 sX2_kindOf (ev_X2_kindOf b) rfl rfl rfl rfl rfl rfl ?_
    refine go_iconst (-1) dX2_fits_40 (by decide) ?_
    refine go_icmp_eq 48 dX2_fits_41 (by decide) (fun c_41 => ?_) (fun c_41 => ?_)
    · refine go_iconst (0) dX2_fits_48 (by decide) ?_
      refine go_ireturn dX2_fits_49 rfl (by first | rfl | decide) (Nat.le_of_ble_eq_true rfl) (Nat.le_of_ble_eq_true rfl) ?_
      exact ⟨by simp_all [fitN], rfl⟩
    · refine go_iconst (1) dX2_fits_44 (by decide) ?_
      refine go_goto 49 dX2_fits_45 (by decide) ?_
      refine go_ireturn dX2_fits_49 rfl (by first | rfl | decide) (Nat.le_of_ble_eq_true rfl) (Nat.le_of_ble_eq_true rfl) ?_
      exact ⟨by simp_all [fitN], rfl⟩
  | 1, _ =>
    refine go_tblIn 50 dX2_fits_1 (by decide) (by decide) rfl (by decide) ?_
    refine go_iload_n dX2_fits_50 rfl ?_
    refine go_bipush (48) dX2_fits_51 (by decide) ?_
    refine go_icmp_lt 66 dX2_fits_53 (by decide) (fun c_53 => ?_) (fun c_53 => ?_)
    · refine go_iconst (0) dX2_fits_66 (by decide) ?_
      refine go_ireturn dX2_fits_67 rfl (by first | rfl | decide) (Nat.le_of_ble_eq_true rfl) (Nat.le_of_ble_eq_true rfl) ?_
      exact ⟨by simp_all [fitN], rfl⟩
    · refine go_iload_n dX2_fits_56 rfl ?_
      refine go_bipush (57) dX2_fits_57 (by decide) ?_
      refine go_icmp_gt 66 dX2_fits_59 (by decide) (fun c_59 => ?_) (fun c_59 => ?_)
      · refine go_iconst (0) dX2_fits_66 (by decide) ?_
        refine go_ireturn dX2_fits_67 rfl (by first | rfl | decide) (Nat.le_of_ble_eq_true rfl) (Nat.le_of_ble_eq_true rfl) ?_
        exact ⟨by simp_all [fitN], rfl⟩
      · refine go_iconst (1) dX2_fits_62 (by decide) ?_
        refine go_goto 67 dX2_fits_63 (by decide) ?_
        refine go_ireturn dX2_fits_67 rfl (by first | rfl | decide) (Nat.le_of_ble_eq_true rfl) (Nat.le_of_ble_eq_true rfl) ?_
        exact ⟨by simp_all [fitN], rfl⟩
  | 2, _ =>
    refine go_tblIn 50 dX2_fits_1 (by decide) (by decide) rfl (by decide) ?_
    refine go_iload_n dX2_fits_50 rfl ?_
    refine go_bipush (48) dX2_fits_51 (by decide) ?_
    refine go_icmp_lt 66 dX2_fits_53 (by decide) (fun c_53 => ?_) (fun c_53 => ?_)
    · refine go_iconst (0) dX2_fits_66 (by decide) ?_
      refine go_ireturn dX2_fits_67 rfl (by first | rfl | decide) (Nat.le_of_ble_eq_true rfl) (Nat.le_of_ble_eq_true rfl) ?_
      exact ⟨by simp_all [fitN], rfl⟩
    · refine go_iload_n dX2_fits_56 rfl ?_
      refine go_bipush (57) dX2_fits_57 (by decide) ?_
      refine go_icmp_gt 66 dX2_fits_59 (by decide) (fun c_59 => ?_) (fun c_59 => ?_)
      · refine go_iconst (0) dX2_fits_66 (by decide) ?_
        refine go_ireturn dX2_fits_67 rfl (by first | rfl | decide) (Nat.le_of_ble_eq_true rfl) (Nat.le_of_ble_eq_true rfl) ?_
        exact ⟨by simp_all [fitN], rfl⟩
      · refine go_iconst (1) dX2_fits_62 (by decide) ?_
        refine go_goto 67 dX2_fits_63 (by decide) ?_
        refine go_ireturn dX2_fits_67 rfl (by first | rfl | decide) (Nat.le_of_ble_eq_true rfl) (Nat.le_of_ble_eq_true rfl) ?_
        exact ⟨by simp_all [fitN], rfl⟩
  | 3, _ =>
    refine go_tblIn 68 dX2_fits_1 (by decide) (by decide) rfl (by decide) ?_
    refine go_iload_n dX2_fits_68 rfl ?_
    refine go_bipush (103) dX2_fits_69 (by decide) ?_
    refine go_icmp_eq 80 dX2_fits_71 (by decide) (fun c_71 => ?_) (fun c_71 => ?_)
    · refine go_iconst (1) dX2_fits_80 (by decide) ?_
      refine go_goto 85 dX2_fits_81 (by decide) ?_
      refine go_ireturn dX2_fits_85 rfl (by first | rfl | decide) (Nat.le_of_ble_eq_true rfl) (Nat.le_of_ble_eq_true rfl) ?_
      exact ⟨by simp_all [fitN], rfl⟩
    · refine go_iload_n dX2_fits_74 rfl ?_
      refine go_bipush (105) dX2_fits_75 (by decide) ?_
      refine go_icmp_ne 84 dX2_fits_77 (by decide) (fun c_77 => ?_) (fun c_77 => ?_)
      · refine go_iconst (0) dX2_fits_84 (by decide) ?_
        refine go_ireturn dX2_fits_85 rfl (by first | rfl | decide) (Nat.le_of_ble_eq_true rfl) (Nat.le_of_ble_eq_true rfl) ?_
        exact ⟨by simp_all [fitN], rfl⟩
      · refine go_iconst (1) dX2_fits_80 (by decide) ?_
        refine go_goto 85 dX2_fits_81 (by decide) ?_
        refine go_ireturn dX2_fits_85 rfl (by first | rfl | decide) (Nat.le_of_ble_eq_true rfl) (Nat.le_of_ble_eq_true rfl) ?_
        exact ⟨by simp_all [fitN], rfl⟩
  | 4, _ =>
    refine go_tblIn 86 dX2_fits_1 (by decide) (by decide) rfl (by decide) ?_
    refine go_iload_n dX2_fits_86 rfl ?_
    refine go_bipush (48) dX2_fits_87 (by decide) ?_
    refine go_icmp_lt 98 dX2_fits_89 (by decide) (fun c_89 => ?_) (fun c_89 => ?_)
    · refine go_iload_n dX2_fits_98 rfl ?_
      refine go_bipush (46) dX2_fits_99 (by decide) ?_
      refine go_icmp_ne 108 dX2_fits_101 (by decide) (fun c_101 => ?_) (fun c_101 => ?_)
      · refine go_iconst (0) dX2_fits_108 (by decide) ?_
        refine go_ireturn dX2_fits_109 rfl (by first | rfl | decide) (Nat.le_of_ble_eq_true rfl) (Nat.le_of_ble_eq_true rfl) ?_
        exact ⟨by simp_all [fitN], rfl⟩
      · refine go_iconst (1) dX2_fits_104 (by decide) ?_
        refine go_goto 109 dX2_fits_105 (by decide) ?_
        refine go_ireturn dX2_fits_109 rfl (by first | rfl | decide) (Nat.le_of_ble_eq_true rfl) (Nat.le_of_ble_eq_true rfl) ?_
        exact ⟨by simp_all [fitN], rfl⟩
    · refine go_iload_n dX2_fits_92 rfl ?_
      refine go_bipush (55) dX2_fits_93 (by decide) ?_
      refine go_icmp_le 104 dX2_fits_95 (by decide) (fun c_95 => ?_) (fun c_95 => ?_)
      · refine go_iconst (1) dX2_fits_104 (by decide) ?_
        refine go_goto 109 dX2_fits_105 (by decide) ?_
        refine go_ireturn dX2_fits_109 rfl (by first | rfl | decide) (Nat.le_of_ble_eq_true rfl) (Nat.le_of_ble_eq_true rfl) ?_
        exact ⟨by simp_all [fitN], rfl⟩
      · refine go_iload_n dX2_fits_98 rfl ?_
        refine go_bipush (46) dX2_fits_99 (by decide) ?_
        refine go_icmp_ne 108 dX2_fits_101 (by decide) (fun c_101 => ?_) (fun c_101 => ?_)
        · refine go_iconst (0) dX2_fits_108 (by decide) ?_
          refine go_ireturn dX2_fits_109 rfl (by first | rfl | decide) (Nat.le_of_ble_eq_true rfl) (Nat.le_of_ble_eq_true rfl) ?_
          exact ⟨by simp_all [fitN], rfl⟩
        · refine go_iconst (1) dX2_fits_104 (by decide) ?_
          refine go_goto 109 dX2_fits_105 (by decide) ?_
          refine go_ireturn dX2_fits_109 rfl (by first | rfl | decide) (Nat.le_of_ble_eq_true rfl) (Nat.le_of_ble_eq_true rfl) ?_
          exact ⟨by simp_all [fitN], rfl⟩
  | 5, _ =>
    refine go_tblOut 110 dX2_fits_1 (by decide) (by decide) ?_
    refine go_iload_n dX2_fits_110 rfl ?_
    refine go_bipush (59) dX2_fits_111 (by decide) ?_
    refine go_icmp_ne 120 dX2_fits_113 (by decide) (fun c_113 => ?_) (fun c_113 => ?_)
    · refine go_iconst (0) dX2_fits_120 (by decide) ?_
      refine go_ireturn dX2_fits_121 rfl (by first | rfl | decide) (Nat.le_of_ble_eq_true rfl) (Nat.le_of_ble_eq_true rfl) ?_
      exact ⟨by simp_all [fitN], rfl⟩
    · refine go_iconst (1) dX2_fits_116 (by decide) ?_
      refine go_goto 121 dX2_fits_117 (by decide) ?_
      refine go_ireturn dX2_fits_121 rfl (by first | rfl | decide) (Nat.le_of_ble_eq_true rfl) (Nat.le_of_ble_eq_true rfl) ?_
      exact ⟨by simp_all [fitN], rfl⟩
  | j + 6, h => exact absurd h (by omega)
set_option maxRecDepth 100000 in
theorem ev_X6_findingAt (lost form sz g i : Int32) (f : Nat → Int32) : Ev MX6_findingAt [.ref 0, .int g, .int i] [zO 5 [.ref 1, .int lost, .int form, .int sz], zI 60 f] (Ri [zO 5 [.ref 1, .int lost, .int form, .int sz], zI 60 f] (if ¬ lost = 0 then 1 else if ¬ form = g then 3 else if i < 0 ∨ ¬ i < sz then 2 else 0)) := by
  refine ev_of bX6_findingAt [some (.ref 0), some (.int g), some (.int i)] (Nat.le_of_ble_eq_true rfl) rfl ?_
  refine go_aload_n dX6_findingAt_0 rfl ?_
  refine go_getf fX6_15 dX6_findingAt_1 rfl rfl ?_
  refine go_if_eq 9 dX6_findingAt_4 (by decide) (fun c_4 => ?_) (fun c_4 => ?_)
  · refine go_aload_n dX6_findingAt_9 rfl ?_
    refine go_getf fX6_19 dX6_findingAt_10 rfl rfl ?_
    refine go_iload_n dX6_findingAt_13 rfl ?_
    refine go_icmp_eq 19 dX6_findingAt_14 (by decide) (fun c_14 => ?_) (fun c_14 => ?_)
    · refine go_iload_n dX6_findingAt_19 rfl ?_
      refine go_if_lt 31 dX6_findingAt_20 (by decide) (fun c_20 => ?_) (fun c_20 => ?_)
      · refine go_iconst (2) dX6_findingAt_31 (by decide) ?_
        refine go_goto 36 dX6_findingAt_32 (by decide) ?_
        refine go_ireturn dX6_findingAt_36 rfl rfl (Nat.le_of_ble_eq_true rfl) (Nat.le_of_ble_eq_true rfl) ?_
        exact ⟨by simp [*], rfl⟩
      · refine go_iload_n dX6_findingAt_23 rfl ?_
        refine go_aload_n dX6_findingAt_24 rfl ?_
        refine go_getf fX6_32 dX6_findingAt_25 rfl rfl ?_
        refine go_icmp_lt 35 dX6_findingAt_28 (by decide) (fun c_28 => ?_) (fun c_28 => ?_)
        · refine go_iconst (0) dX6_findingAt_35 (by decide) ?_
          refine go_ireturn dX6_findingAt_36 rfl rfl (Nat.le_of_ble_eq_true rfl) (Nat.le_of_ble_eq_true rfl) ?_
          exact ⟨by simp [*], rfl⟩
        · refine go_iconst (2) dX6_findingAt_31 (by decide) ?_
          refine go_goto 36 dX6_findingAt_32 (by decide) ?_
          refine go_ireturn dX6_findingAt_36 rfl rfl (Nat.le_of_ble_eq_true rfl) (Nat.le_of_ble_eq_true rfl) ?_
          exact ⟨by simp [*], rfl⟩
    · refine go_iconst (3) dX6_findingAt_17 (by decide) ?_
      refine go_ireturn dX6_findingAt_18 rfl rfl (Nat.le_of_ble_eq_true rfl) (Nat.le_of_ble_eq_true rfl) ?_
      exact ⟨by simp [*], rfl⟩
  · refine go_iconst (1) dX6_findingAt_7 (by decide) ?_
    refine go_ireturn dX6_findingAt_8 rfl rfl (Nat.le_of_ble_eq_true rfl) (Nat.le_of_ble_eq_true rfl) ?_
    exact ⟨by simp [*], rfl⟩
set_option maxRecDepth 100000 in
theorem ev_X6_hasStretch (lost form sz i n : Int32) (f : Nat → Int32) : Ev MX6_hasStretch [.ref 0, .int i, .int n] [zO 5 [.ref 1, .int lost, .int form, .int sz], zI 60 f] (Ri [zO 5 [.ref 1, .int lost, .int form, .int sz], zI 60 f] (if i < 0 ∨ n < 0 ∨ sz < i ∨ sz - i < n then 0 else 1)) := by
  refine ev_of bX6_hasStretch [some (.ref 0), some (.int i), some (.int n)] (Nat.le_of_ble_eq_true rfl) rfl ?_
  refine go_iload_n dX6_hasStretch_0 rfl ?_
  refine go_if_lt 30 dX6_hasStretch_1 (by decide) (fun c_1 => ?_) (fun c_1 => ?_)
  · refine go_iconst (0) dX6_hasStretch_30 (by decide) ?_
    refine go_ireturn dX6_hasStretch_31 rfl rfl (Nat.le_of_ble_eq_true rfl) (Nat.le_of_ble_eq_true rfl) ?_
    exact ⟨by simp [*], rfl⟩
  · refine go_iload_n dX6_hasStretch_4 rfl ?_
    refine go_if_lt 30 dX6_hasStretch_5 (by decide) (fun c_5 => ?_) (fun c_5 => ?_)
    · refine go_iconst (0) dX6_hasStretch_30 (by decide) ?_
      refine go_ireturn dX6_hasStretch_31 rfl rfl (Nat.le_of_ble_eq_true rfl) (Nat.le_of_ble_eq_true rfl) ?_
      exact ⟨by simp [*], rfl⟩
    · refine go_iload_n dX6_hasStretch_8 rfl ?_
      refine go_aload_n dX6_hasStretch_9 rfl ?_
      refine go_getf fX6_32 dX6_hasStretch_10 rfl rfl ?_
      refine go_icmp_gt 30 dX6_hasStretch_13 (by decide) (fun c_13 => ?_) (fun c_13 => ?_)
      · refine go_iconst (0) dX6_hasStretch_30 (by decide) ?_
        refine go_ireturn dX6_hasStretch_31 rfl rfl (Nat.le_of_ble_eq_true rfl) (Nat.le_of_ble_eq_true rfl) ?_
        exact ⟨by simp [*], rfl⟩
      · refine go_iload_n dX6_hasStretch_16 rfl ?_
        refine go_aload_n dX6_hasStretch_17 rfl ?_
        refine go_getf fX6_32 dX6_hasStretch_18 rfl rfl ?_
        refine go_iload_n dX6_hasStretch_21 rfl ?_
        refine go_isub dX6_hasStretch_22 ?_
        refine go_icmp_gt 30 dX6_hasStretch_23 (by decide) (fun c_23 => ?_) (fun c_23 => ?_)
        · refine go_iconst (0) dX6_hasStretch_30 (by decide) ?_
          refine go_ireturn dX6_hasStretch_31 rfl rfl (Nat.le_of_ble_eq_true rfl) (Nat.le_of_ble_eq_true rfl) ?_
          exact ⟨by simp [*], rfl⟩
        · refine go_iconst (1) dX6_hasStretch_26 (by decide) ?_
          refine go_goto 31 dX6_hasStretch_27 (by decide) ?_
          refine go_ireturn dX6_hasStretch_31 rfl rfl (Nat.le_of_ble_eq_true rfl) (Nat.le_of_ble_eq_true rfl) ?_
          exact ⟨by simp [*], rfl⟩
set_option maxRecDepth 100000 in
theorem ev_X6_put (lost form v : Int32) (j k : Nat) (hj : j < k) (hk : k ≤ 60) (f : Nat → Int32) : Ev MX6_put [.ref 0, .int (nI j), .int v] [zO 5 [.ref 1, .int lost, .int form, .int (nI k)], zI 60 f] (Rw none [zO 5 [.ref 1, .int lost, .int form, .int (nI k)], zI 60 (upd f j (cutI form v))]) := by
  refine ev_of bX6_put [some (.ref 0), some (.int (nI j)), some (.int v)] (Nat.le_of_ble_eq_true rfl) rfl ?_
  refine go_iload_n dX6_put_0 rfl ?_
  refine go_if_lt 44 dX6_put_1 (by decide) (fun c_1 => absurd c_1 (nI_pos (by omega))) (fun _ => ?_)
  refine go_iload_n dX6_put_4 rfl ?_
  refine go_aload_n dX6_put_5 rfl ?_
  refine go_getf fX6_32 dX6_put_6 rfl rfl ?_
  refine go_icmp_ge 44 dX6_put_9 (by decide) (fun c_9 => absurd c_9 (nI_ge hj (by omega))) (fun _ => ?_)
  refine go_aload_n dX6_put_12 rfl ?_
  refine go_getf fX6_9 dX6_put_13 rfl rfl ?_
  refine go_iload_n dX6_put_16 rfl ?_
  refine go_aload_n dX6_put_17 rfl ?_
  refine go_getf fX6_19 dX6_put_18 rfl rfl ?_
  refine go_if_ne 29 dX6_put_21 (by decide) (fun c_21 => ?_) (fun c_21 => ?_)
  · refine go_aload_n dX6_put_29 rfl ?_
    refine go_getf fX6_19 dX6_put_30 rfl rfl ?_
    refine go_iconst (1) dX6_put_33 (by decide) ?_
    refine go_icmp_ne 42 dX6_put_34 (by decide) (fun c_34 => ?_) (fun c_34 => ?_)
    · refine go_iload_n dX6_put_42 rfl ?_
      refine go_iast dX6_put_43 rfl (vp_in_nI (by omega) (by decide)) ?_
      refine go_return dX6_put_44 rfl (Nat.le_of_ble_eq_true rfl) (Nat.le_of_ble_eq_true rfl) ?_
      refine ⟨rfl, ?_⟩
      simp only [nI_clamp (show j < 2 ^ 31 by omega)]
      simp_all [cutI]
    · refine go_iload_n dX6_put_37 rfl ?_
      refine go_i2s dX6_put_38 ?_
      refine go_goto 43 dX6_put_39 (by decide) ?_
      refine go_iast dX6_put_43 rfl (vp_in_nI (by omega) (by decide)) ?_
      refine go_return dX6_put_44 rfl (Nat.le_of_ble_eq_true rfl) (Nat.le_of_ble_eq_true rfl) ?_
      refine ⟨rfl, ?_⟩
      simp only [nI_clamp (show j < 2 ^ 31 by omega)]
      simp_all [cutI]
  · refine go_iload_n dX6_put_24 rfl ?_
    refine go_i2b dX6_put_25 ?_
    refine go_goto 43 dX6_put_26 (by decide) ?_
    refine go_iast dX6_put_43 rfl (vp_in_nI (by omega) (by decide)) ?_
    refine go_return dX6_put_44 rfl (Nat.le_of_ble_eq_true rfl) (Nat.le_of_ble_eq_true rfl) ?_
    refine ⟨rfl, ?_⟩
    simp only [nI_clamp (show j < 2 ^ 31 by omega)]
    simp_all [cutI]
set_option maxRecDepth 100000 in
theorem ev_X7_allows (f t : Int32) : Ev MX7_allows [.int f, .int t] [] (Ri [] (if f < 0 ∨ 8 ≤ f ∨ t < 0 ∨ 5 ≤ t then 0 else 1)) := by
  refine ev_of bX7_allows [some (.int f), some (.int t)] (Nat.le_of_ble_eq_true rfl) rfl ?_
  refine go_iload_n dX7_allows_0 rfl ?_
  refine go_if_lt 23 dX7_allows_1 (by decide) (fun c_1 => ?_) (fun c_1 => ?_)
  · refine go_iconst (0) dX7_allows_23 (by decide) ?_
    refine go_ireturn dX7_allows_24 rfl rfl (Nat.le_of_ble_eq_true rfl) (Nat.le_of_ble_eq_true rfl) ?_
    exact ⟨by simp [*], rfl⟩
  · refine go_iload_n dX7_allows_4 rfl ?_
    refine go_bipush (8) dX7_allows_5 (by decide) ?_
    refine go_icmp_ge 23 dX7_allows_7 (by decide) (fun c_7 => ?_) (fun c_7 => ?_)
    · refine go_iconst (0) dX7_allows_23 (by decide) ?_
      refine go_ireturn dX7_allows_24 rfl rfl (Nat.le_of_ble_eq_true rfl) (Nat.le_of_ble_eq_true rfl) ?_
      exact ⟨by simp [*], rfl⟩
    · refine go_iload_n dX7_allows_10 rfl ?_
      refine go_if_lt 23 dX7_allows_11 (by decide) (fun c_11 => ?_) (fun c_11 => ?_)
      · refine go_iconst (0) dX7_allows_23 (by decide) ?_
        refine go_ireturn dX7_allows_24 rfl rfl (Nat.le_of_ble_eq_true rfl) (Nat.le_of_ble_eq_true rfl) ?_
        exact ⟨by simp [*], rfl⟩
      · refine go_iload_n dX7_allows_14 rfl ?_
        refine go_iconst (5) dX7_allows_15 (by decide) ?_
        refine go_icmp_ge 23 dX7_allows_16 (by decide) (fun c_16 => ?_) (fun c_16 => ?_)
        · refine go_iconst (0) dX7_allows_23 (by decide) ?_
          refine go_ireturn dX7_allows_24 rfl rfl (Nat.le_of_ble_eq_true rfl) (Nat.le_of_ble_eq_true rfl) ?_
          exact ⟨by simp [*], rfl⟩
        · refine go_iconst (1) dX7_allows_19 (by decide) ?_
          refine go_goto 24 dX7_allows_20 (by decide) ?_
          refine go_ireturn dX7_allows_24 rfl rfl (Nat.le_of_ble_eq_true rfl) (Nat.le_of_ble_eq_true rfl) ?_
          exact ⟨by simp [*], rfl⟩
set_option maxRecDepth 100000 in
theorem ev_X7_isFull (sz : Int32) (a b : Nat → Int32) : Ev MX7_isFull [.ref 0] [zO 6 [.ref 1, .ref 2, .int sz], zI 8 a, zI 8 b] (Ri [zO 6 [.ref 1, .ref 2, .int sz], zI 8 a, zI 8 b] (if sz < 8 then 0 else 1)) := by
  refine ev_of bX7_isFull [some (.ref 0)] (Nat.le_of_ble_eq_true rfl) rfl ?_
  refine go_aload_n dX7_isFull_0 rfl ?_
  refine go_getf fX7_18 dX7_isFull_1 rfl rfl ?_
  refine go_bipush (8) dX7_isFull_4 (by decide) ?_
  refine go_icmp_lt 13 dX7_isFull_6 (by decide) (fun c_6 => ?_) (fun c_6 => ?_)
  · refine go_iconst (0) dX7_isFull_13 (by decide) ?_
    refine go_ireturn dX7_isFull_14 rfl rfl (Nat.le_of_ble_eq_true rfl) (Nat.le_of_ble_eq_true rfl) ?_
    exact ⟨by simp [*], rfl⟩
  · refine go_iconst (1) dX7_isFull_9 (by decide) ?_
    refine go_goto 14 dX7_isFull_10 (by decide) ?_
    refine go_ireturn dX7_isFull_14 rfl rfl (Nat.le_of_ble_eq_true rfl) (Nat.le_of_ble_eq_true rfl) ?_
    exact ⟨by simp [*], rfl⟩
set_option maxRecDepth 100000 in
theorem ev_X7_add (k : Nat) (hk : k < 8) (x y : Int32) (a b : Nat → Int32) : Ev MX7_add [.ref 0, .int x, .int y] [zO 6 [.ref 1, .ref 2, .int (nI k)], zI 8 a, zI 8 b] (Rw none [zO 6 [.ref 1, .ref 2, .int (nI (k + 1))], zI 8 (upd a k x), zI 8 (upd b k y)]) := by
  refine ev_of bX7_add [some (.ref 0), some (.int x), some (.int y)] (Nat.le_of_ble_eq_true rfl) rfl ?_
  refine go_aload_n dX7_add_0 rfl ?_
  refine go_getf fX7_18 dX7_add_1 rfl rfl ?_
  refine go_bipush (8) dX7_add_4 (by decide) ?_
  refine go_icmp_ge 39 dX7_add_6 (by decide) (fun c_6 => absurd c_6 (nI_ge hk (by decide))) (fun _ => ?_)
  refine go_aload_n dX7_add_9 rfl ?_
  refine go_getf fX7_9 dX7_add_10 rfl rfl ?_
  refine go_aload_n dX7_add_13 rfl ?_
  refine go_getf fX7_18 dX7_add_14 rfl rfl ?_
  refine go_iload_n dX7_add_17 rfl ?_
  refine go_iast dX7_add_18 rfl (vp_in_nI hk (by decide)) ?_
  refine go_aload_n dX7_add_19 rfl ?_
  refine go_getf fX7_15 dX7_add_20 rfl rfl ?_
  refine go_aload_n dX7_add_23 rfl ?_
  refine go_getf fX7_18 dX7_add_24 rfl rfl ?_
  refine go_iload_n dX7_add_27 rfl ?_
  refine go_iast dX7_add_28 rfl (vp_in_nI hk (by decide)) ?_
  refine go_aload_n dX7_add_29 rfl ?_
  refine go_dup dX7_add_30 rfl ?_
  refine go_getf fX7_18 dX7_add_31 rfl rfl ?_
  refine go_iconst (1) dX7_add_34 (by decide) ?_
  refine go_iadd dX7_add_35 ?_
  refine go_putf fX7_18 dX7_add_36 rfl (fun _ _ _ h => by cases h; rfl) (fun _ => rfl) (fun _ => rfl) (Nat.le_of_ble_eq_true rfl) ?_
  refine go_return dX7_add_39 rfl (Nat.le_of_ble_eq_true rfl) (Nat.le_of_ble_eq_true rfl) ?_
  refine ⟨rfl, ?_⟩
  simp only [nI_clamp (show k < 2 ^ 31 by omega), ← nI_1]
  rfl
set_option maxRecDepth 100000 in
theorem ev_X0_fateOf (len goal : Int32) (harm : Int64) (cm sx sg wn inn ft : Nat → Int32) (ab : Nat → Int64) (i : Int32) : Ev MX0_fateOf [.ref 0, .int i] [zO 0 [.ref 1, .ref 2, .ref 3, .ref 4, .ref 5, .ref 6, .ref 7, .int len, .int goal, .long harm], zI 12 cm, zI 12 sx, zI 13 sg, zI 13 wn, zL 13 ab, zI 13 inn, zI 8 ft] (Ri [zO 0 [.ref 1, .ref 2, .ref 3, .ref 4, .ref 5, .ref 6, .ref 7, .int len, .int goal, .long harm], zI 12 cm, zI 12 sx, zI 13 sg, zI 13 wn, zL 13 ab, zI 13 inn, zI 8 ft] (if i < 0 ∨ 8 ≤ i then -1 else ft i.toNatClampNeg)) := by
  refine ev_of bX0_fateOf [some (.ref 0), some (.int i)] (Nat.le_of_ble_eq_true rfl) rfl ?_
  refine go_iload_n dX0_fateOf_0 rfl ?_
  refine go_if_lt 19 dX0_fateOf_1 (by decide) (fun c_1 => ?_) (fun c_1 => ?_)
  · refine go_iconst (-1) dX0_fateOf_19 (by decide) ?_
    refine go_ireturn dX0_fateOf_20 rfl rfl (Nat.le_of_ble_eq_true rfl) (Nat.le_of_ble_eq_true rfl) ?_
    exact ⟨by simp [*], rfl⟩
  · refine go_iload_n dX0_fateOf_4 rfl ?_
    refine go_bipush (8) dX0_fateOf_5 (by decide) ?_
    refine go_icmp_ge 19 dX0_fateOf_7 (by decide) (fun c_7 => ?_) (fun c_7 => ?_)
    · refine go_iconst (-1) dX0_fateOf_19 (by decide) ?_
      refine go_ireturn dX0_fateOf_20 rfl rfl (Nat.le_of_ble_eq_true rfl) (Nat.le_of_ble_eq_true rfl) ?_
      exact ⟨by simp [*], rfl⟩
    · refine go_aload_n dX0_fateOf_10 rfl ?_
      refine go_getf fX0_31 dX0_fateOf_11 rfl rfl ?_
      refine go_iload_n dX0_fateOf_14 rfl ?_
      refine go_iald dX0_fateOf_15 rfl (vin_of c_1 c_7 (by decide)) ?_
      refine go_goto 20 dX0_fateOf_16 (by decide) ?_
      refine go_ireturn dX0_fateOf_20 rfl rfl (Nat.le_of_ble_eq_true rfl) (Nat.le_of_ble_eq_true rfl) ?_
      exact ⟨by simp [*], rfl⟩
