/-- Integer.bitCount -/
def ush (x z : Int32) : Int32 := (x.toUInt32 >>> (z.toUInt32 &&& Int32.toUInt32 31)).toInt32
def bc1 (x : Int32) : Int32 := x - (ush x (nI 1) &&& 1431655765)
def bc2 (x : Int32) : Int32 := (x &&& 858993459) + (ush x (nI 2) &&& 858993459)
def bc3 (x : Int32) : Int32 := (x + ush x (nI 4)) &&& 252645135
def bc4 (x : Int32) : Int32 := x + ush x (nI 8)
def bc5 (x : Int32) : Int32 := (x + ush x (nI 16)) &&& nI 63
theorem and_nI (a b : Nat) : nI a &&& nI b = nI (a &&& b) := bt_ext fun j hj => by
  rw [bt_and, bt_nI _ hj, bt_nI _ hj, bt_nI _ hj, Nat.testBit_and]
theorem ush_1 {a : Nat} (ha : a < 2 ^ 31) : ush (nI a) (nI 1) = nI (a >>> 1) := bt_ext fun j hj => by
  rw [bt_nI _ hj, Nat.testBit_shiftRight]
  show (BitVec.ofNat 32 a >>> (1 : Nat)).getLsbD j = _
  rw [BitVec.getLsbD_ushiftRight, BitVec.getLsbD_ofNat]
  by_cases z : 1 + j < 32
  · rw [decide_eq_true z, Bool.true_and]
  · rw [decide_eq_false z, Bool.false_and, Nat.testBit_lt_two_pow (Nat.lt_of_lt_of_le ha (Nat.pow_le_pow_right (by decide) (by omega)))]
theorem ush_2 {a : Nat} (ha : a < 2 ^ 31) : ush (nI a) (nI 2) = nI (a >>> 2) := bt_ext fun j hj => by
  rw [bt_nI _ hj, Nat.testBit_shiftRight]
  show (BitVec.ofNat 32 a >>> (2 : Nat)).getLsbD j = _
  rw [BitVec.getLsbD_ushiftRight, BitVec.getLsbD_ofNat]
  by_cases z : 2 + j < 32
  · rw [decide_eq_true z, Bool.true_and]
  · rw [decide_eq_false z, Bool.false_and, Nat.testBit_lt_two_pow (Nat.lt_of_lt_of_le ha (Nat.pow_le_pow_right (by decide) (by omega)))]
theorem ush_4 {a : Nat} (ha : a < 2 ^ 31) : ush (nI a) (nI 4) = nI (a >>> 4) := bt_ext fun j hj => by
  rw [bt_nI _ hj, Nat.testBit_shiftRight]
  show (BitVec.ofNat 32 a >>> (4 : Nat)).getLsbD j = _
  rw [BitVec.getLsbD_ushiftRight, BitVec.getLsbD_ofNat]
  by_cases z : 4 + j < 32
  · rw [decide_eq_true z, Bool.true_and]
  · rw [decide_eq_false z, Bool.false_and, Nat.testBit_lt_two_pow (Nat.lt_of_lt_of_le ha (Nat.pow_le_pow_right (by decide) (by omega)))]
theorem ush_8 {a : Nat} (ha : a < 2 ^ 31) : ush (nI a) (nI 8) = nI (a >>> 8) := bt_ext fun j hj => by
  rw [bt_nI _ hj, Nat.testBit_shiftRight]
  show (BitVec.ofNat 32 a >>> (8 : Nat)).getLsbD j = _
  rw [BitVec.getLsbD_ushiftRight, BitVec.getLsbD_ofNat]
  by_cases z : 8 + j < 32
  · rw [decide_eq_true z, Bool.true_and]
  · rw [decide_eq_false z, Bool.false_and, Nat.testBit_lt_two_pow (Nat.lt_of_lt_of_le ha (Nat.pow_le_pow_right (by decide) (by omega)))]
theorem ush_16 {a : Nat} (ha : a < 2 ^ 31) : ush (nI a) (nI 16) = nI (a >>> 16) := bt_ext fun j hj => by
  rw [bt_nI _ hj, Nat.testBit_shiftRight]
  show (BitVec.ofNat 32 a >>> (16 : Nat)).getLsbD j = _
  rw [BitVec.getLsbD_ushiftRight, BitVec.getLsbD_ofNat]
  by_cases z : 16 + j < 32
  · rw [decide_eq_true z, Bool.true_and]
  · rw [decide_eq_false z, Bool.false_and, Nat.testBit_lt_two_pow (Nat.lt_of_lt_of_le ha (Nat.pow_le_pow_right (by decide) (by omega)))]
def nb1 (x : Nat) : Nat := x - ((x >>> 1) &&& 1431655765)
def nb2 (x : Nat) : Nat := (x &&& 858993459) + ((x >>> 2) &&& 858993459)
def nb3 (x : Nat) : Nat := (x + (x >>> 4)) &&& 252645135
def nb4 (x : Nat) : Nat := x + (x >>> 8)
def nb5 (x : Nat) : Nat := (x + (x >>> 16)) &&& 63
def pcb (a : Nat) : Nat := a % 2 + a / 2 % 2 + a / 4 % 2 + a / 8 % 2 + a / 16 % 2 + a / 32 % 2 + a / 64 % 2 + a / 128 % 2
theorem land_sp {y v M c : Nat} (hv : v < 256) (hc : c < 256) : (256 * y + v) &&& (256 * M + c) = 256 * (y &&& M) + (v &&& c) := Nat.eq_of_testBit_eq fun j => by
  have hvc : v &&& c < 2 ^ 8 := Nat.lt_of_le_of_lt Nat.and_le_right hc
  rw [Nat.testBit_and]
  show ((2 ^ 8 * y + v).testBit j && (2 ^ 8 * M + c).testBit j) = (2 ^ 8 * (y &&& M) + (v &&& c)).testBit j
  rw [Nat.testBit_two_pow_mul_add _ hv, Nat.testBit_two_pow_mul_add _ hc, Nat.testBit_two_pow_mul_add _ hvc]
  split
  · rw [Nat.testBit_and]
  · rw [Nat.testBit_and]
def bp (b : Nat) : Nat := (b / 2) &&& 85
def bq (b : Nat) : Nat := b - bp b
def br (b : Nat) : Nat := (b &&& 51) + ((b / 4) &&& 51)
theorem by_a : ∀ b, b < 256 → (128 * 0 + b / 2) &&& 85 = bp b ∧ (128 * 1 + b / 2) &&& 85 = bp b ∧ (b / 2) &&& 5592405 = bp b ∧ bp b ≤ b := by decide +kernel
theorem by_b : ∀ b, b < 256 → bq b < 256 ∧ b &&& 3355443 = b &&& 51 ∧ (b / 4) &&& 3355443 = (b / 4) &&& 51 ∧ (∀ e, e < 4 → (64 * e + b / 4) &&& 51 = (b / 4) &&& 51) := by decide +kernel
theorem by_c : ∀ b, b < 256 → br (bq b) < 72 ∧ br (bq b) % 16 ≤ 4 ∧ br (bq b) / 16 ≤ 4 ∧ (∀ l, l < 5 → (br (bq b) + br (bq b) / 16 + 16 * l) &&& 15 = pcb b) ∧ (br (bq b) + br (bq b) / 16) &&& 986895 = pcb b ∧ pcb b ≤ 8 := by decide +kernel
theorem by_1 (b : Nat) (h : b < 256) : ((∀ e, e < 2 → (128 * e + b / 2) &&& 85 = bp b) ∧ (b / 2) &&& 5592405 = bp b ∧ bp b ≤ b) ∧ (bq b < 256 ∧ (b &&& 3355443 = b &&& 51) ∧ (b / 4) &&& 3355443 = (b / 4) &&& 51 ∧ (∀ e, e < 4 → (64 * e + b / 4) &&& 51 = (b / 4) &&& 51)) ∧ br (bq b) < 72 ∧ br (bq b) % 16 ≤ 4 ∧ br (bq b) / 16 ≤ 4 ∧ (∀ l, l < 5 → (br (bq b) + br (bq b) / 16 + 16 * l) &&& 15 = pcb b) ∧ (br (bq b) + br (bq b) / 16) &&& 986895 = pcb b ∧ pcb b ≤ 8 := by
  have a := by_a b h
  refine ⟨⟨fun e he => ?_, a.2.2⟩, by_b b h, by_c b h⟩
  rcases (show e = 0 ∨ e = 1 by omega) with rfl | rfl
  · exact a.1
  · exact a.2.1
theorem nb_1 {a b : Nat} (ha : a < 256) (hb : b < 256) : nb1 (256 * a + b) = 256 * bq a + bq b := by
  have h1 := (by_1 a ha).1
  have h2 := (by_1 b hb).1
  have e : (256 * a + b) >>> 1 = 256 * (a / 2) + (128 * (a % 2) + b / 2) := by rw [Nat.shiftRight_eq_div_pow]; omega
  unfold nb1
  rw [e, show 1431655765 = 256 * 5592405 + 85 from rfl, land_sp (by omega) (by decide), h1.2.1, h2.1 (a % 2) (Nat.mod_lt _ (by decide))]
  unfold bq
  omega
theorem nb_2 {a b : Nat} (ha : a < 256) (hb : b < 256) : nb2 (256 * a + b) = 256 * br a + br b := by
  have h1 := (by_1 a ha).2.1
  have h2 := (by_1 b hb).2.1
  have e : (256 * a + b) >>> 2 = 256 * (a / 4) + (64 * (a % 4) + b / 4) := by rw [Nat.shiftRight_eq_div_pow]; omega
  unfold nb2
  rw [e, show 858993459 = 256 * 3355443 + 51 from rfl, land_sp hb (by decide), land_sp (by omega) (by decide), h1.2.1, h1.2.2.1, h2.2.2.2 (a % 4) (Nat.mod_lt _ (by decide))]
  unfold br
  omega
theorem nb_3 {a b : Nat} (ha : a < 256) (hb : b < 256) : nb3 (256 * br (bq a) + br (bq b)) = 256 * pcb a + pcb b := by
  have h1 := (by_1 a ha).2.2
  have h2 := (by_1 b hb).2.2
  have e : (256 * br (bq a) + br (bq b)) + (256 * br (bq a) + br (bq b)) >>> 4 = 256 * (br (bq a) + br (bq a) / 16) + (br (bq b) + br (bq b) / 16 + 16 * (br (bq a) % 16)) := by rw [Nat.shiftRight_eq_div_pow]; omega
  unfold nb3
  rw [e, show 252645135 = 256 * 986895 + 15 from rfl, land_sp (by omega) (by decide), h1.2.2.2.2.1, h2.2.2.2.1 _ (by omega)]
theorem nb_45 {A B : Nat} (hA : A ≤ 8) (hB : B ≤ 8) : nb5 (nb4 (256 * A + B)) = A + B := by
  have e1 : nb4 (256 * A + B) = 256 * A + (A + B) := by unfold nb4; rw [Nat.shiftRight_eq_div_pow]; omega
  have e2 : (256 * A + (A + B)) >>> 16 = 0 := by rw [Nat.shiftRight_eq_div_pow]; omega
  rw [e1]
  unfold nb5
  rw [e2, Nat.add_zero, show (63 : Nat) = 2 ^ 6 - 1 from rfl, Nat.and_two_pow_sub_one_eq_mod]
  omega
theorem cnt_bit (x n : Nat) : cnt (tb x) (n + 1) = cnt (tb x) n + x / 2 ^ n % 2 := by
  by_cases z : x.testBit n = true
  · rw [cnt_t (p := tb x) z]
    rw [Nat.testBit_eq_decide_div_mod_eq, decide_eq_true_eq] at z
    omega
  · rw [cnt_f (p := tb x) z]
    rw [Nat.testBit_eq_decide_div_mod_eq, decide_eq_true_eq] at z
    omega
theorem bl_0 (a b : Nat) (hb : b < 256) : (256 * a + b) / 1 % 2 = b % 2 := by omega
theorem bl_1 (a b : Nat) (hb : b < 256) : (256 * a + b) / 2 % 2 = b / 2 % 2 := by omega
theorem bl_2 (a b : Nat) (hb : b < 256) : (256 * a + b) / 4 % 2 = b / 4 % 2 := by omega
theorem bl_3 (a b : Nat) (hb : b < 256) : (256 * a + b) / 8 % 2 = b / 8 % 2 := by omega
theorem bl_4 (a b : Nat) (hb : b < 256) : (256 * a + b) / 16 % 2 = b / 16 % 2 := by omega
theorem bl_5 (a b : Nat) (hb : b < 256) : (256 * a + b) / 32 % 2 = b / 32 % 2 := by omega
theorem bl_6 (a b : Nat) (hb : b < 256) : (256 * a + b) / 64 % 2 = b / 64 % 2 := by omega
theorem bl_7 (a b : Nat) (hb : b < 256) : (256 * a + b) / 128 % 2 = b / 128 % 2 := by omega
theorem bl_8 (a b : Nat) (hb : b < 256) : (256 * a + b) / 256 % 2 = a % 2 := by omega
theorem bl_9 (a b : Nat) (hb : b < 256) : (256 * a + b) / 512 % 2 = a / 2 % 2 := by omega
theorem bl_10 (a b : Nat) (hb : b < 256) : (256 * a + b) / 1024 % 2 = a / 4 % 2 := by omega
theorem bl_11 (a b : Nat) (hb : b < 256) : (256 * a + b) / 2048 % 2 = a / 8 % 2 := by omega
theorem bl_12 (a b : Nat) (hb : b < 256) : (256 * a + b) / 4096 % 2 = a / 16 % 2 := by omega
theorem bl_13 (a b : Nat) (hb : b < 256) : (256 * a + b) / 8192 % 2 = a / 32 % 2 := by omega
theorem bl_14 (a b : Nat) (hb : b < 256) : (256 * a + b) / 16384 % 2 = a / 64 % 2 := by omega
theorem bl_15 (a b : Nat) (hb : b < 256) : (256 * a + b) / 32768 % 2 = a / 128 % 2 := by omega
theorem cnt_16 {a b : Nat} (ha : a < 256) (hb : b < 256) : cnt (tb (256 * a + b)) 16 = pcb a + pcb b := by
  have s_ : cnt (tb (256 * a + b)) 0 = 0 := rfl
  have s0 : cnt (tb (256 * a + b)) 1 = cnt (tb (256 * a + b)) 0 + b % 2 := (cnt_bit _ 0).trans (congrArg (fun z => cnt (tb (256 * a + b)) 0 + z) (bl_0 a b hb))
  have s1 : cnt (tb (256 * a + b)) 2 = cnt (tb (256 * a + b)) 1 + b / 2 % 2 := (cnt_bit _ 1).trans (congrArg (fun z => cnt (tb (256 * a + b)) 1 + z) (bl_1 a b hb))
  have s2 : cnt (tb (256 * a + b)) 3 = cnt (tb (256 * a + b)) 2 + b / 4 % 2 := (cnt_bit _ 2).trans (congrArg (fun z => cnt (tb (256 * a + b)) 2 + z) (bl_2 a b hb))
  have s3 : cnt (tb (256 * a + b)) 4 = cnt (tb (256 * a + b)) 3 + b / 8 % 2 := (cnt_bit _ 3).trans (congrArg (fun z => cnt (tb (256 * a + b)) 3 + z) (bl_3 a b hb))
  have s4 : cnt (tb (256 * a + b)) 5 = cnt (tb (256 * a + b)) 4 + b / 16 % 2 := (cnt_bit _ 4).trans (congrArg (fun z => cnt (tb (256 * a + b)) 4 + z) (bl_4 a b hb))
  have s5 : cnt (tb (256 * a + b)) 6 = cnt (tb (256 * a + b)) 5 + b / 32 % 2 := (cnt_bit _ 5).trans (congrArg (fun z => cnt (tb (256 * a + b)) 5 + z) (bl_5 a b hb))
  have s6 : cnt (tb (256 * a + b)) 7 = cnt (tb (256 * a + b)) 6 + b / 64 % 2 := (cnt_bit _ 6).trans (congrArg (fun z => cnt (tb (256 * a + b)) 6 + z) (bl_6 a b hb))
  have s7 : cnt (tb (256 * a + b)) 8 = cnt (tb (256 * a + b)) 7 + b / 128 % 2 := (cnt_bit _ 7).trans (congrArg (fun z => cnt (tb (256 * a + b)) 7 + z) (bl_7 a b hb))
  have s8 : cnt (tb (256 * a + b)) 9 = cnt (tb (256 * a + b)) 8 + a % 2 := (cnt_bit _ 8).trans (congrArg (fun z => cnt (tb (256 * a + b)) 8 + z) (bl_8 a b hb))
  have s9 : cnt (tb (256 * a + b)) 10 = cnt (tb (256 * a + b)) 9 + a / 2 % 2 := (cnt_bit _ 9).trans (congrArg (fun z => cnt (tb (256 * a + b)) 9 + z) (bl_9 a b hb))
  have s10 : cnt (tb (256 * a + b)) 11 = cnt (tb (256 * a + b)) 10 + a / 4 % 2 := (cnt_bit _ 10).trans (congrArg (fun z => cnt (tb (256 * a + b)) 10 + z) (bl_10 a b hb))
  have s11 : cnt (tb (256 * a + b)) 12 = cnt (tb (256 * a + b)) 11 + a / 8 % 2 := (cnt_bit _ 11).trans (congrArg (fun z => cnt (tb (256 * a + b)) 11 + z) (bl_11 a b hb))
  have s12 : cnt (tb (256 * a + b)) 13 = cnt (tb (256 * a + b)) 12 + a / 16 % 2 := (cnt_bit _ 12).trans (congrArg (fun z => cnt (tb (256 * a + b)) 12 + z) (bl_12 a b hb))
  have s13 : cnt (tb (256 * a + b)) 14 = cnt (tb (256 * a + b)) 13 + a / 32 % 2 := (cnt_bit _ 13).trans (congrArg (fun z => cnt (tb (256 * a + b)) 13 + z) (bl_13 a b hb))
  have s14 : cnt (tb (256 * a + b)) 15 = cnt (tb (256 * a + b)) 14 + a / 64 % 2 := (cnt_bit _ 14).trans (congrArg (fun z => cnt (tb (256 * a + b)) 14 + z) (bl_14 a b hb))
  have s15 : cnt (tb (256 * a + b)) 16 = cnt (tb (256 * a + b)) 15 + a / 128 % 2 := (cnt_bit _ 15).trans (congrArg (fun z => cnt (tb (256 * a + b)) 15 + z) (bl_15 a b hb))
  unfold pcb
  rw [s15, s14, s13, s12, s11, s10, s9, s8, s7, s6, s5, s4, s3, s2, s1, s0, s_]
  clear s15 s14 s13 s12 s11 s10 s9 s8 s7 s6 s5 s4 s3 s2 s1 s0 s_
  generalize a / 128 % 2 = a128
  generalize a / 64 % 2 = a64
  generalize a / 32 % 2 = a32
  generalize a / 16 % 2 = a16
  generalize a / 8 % 2 = a8
  generalize a / 4 % 2 = a4
  generalize a / 2 % 2 = a2
  generalize a % 2 = a1
  generalize b / 128 % 2 = b128
  generalize b / 64 % 2 = b64
  generalize b / 32 % 2 = b32
  generalize b / 16 % 2 = b16
  generalize b / 8 % 2 = b8
  generalize b / 4 % 2 = b4
  generalize b / 2 % 2 = b2
  generalize b % 2 = b1
  omega
theorem bc_N {x : Nat} (hx : x < 65536) : nb5 (nb4 (nb3 (nb2 (nb1 x)))) = cnt (tb x) 16 := by
  obtain ⟨a, b, ha, hb, rfl⟩ : ∃ a b, a < 256 ∧ b < 256 ∧ x = 256 * a + b := ⟨x / 256, x % 256, by omega, by omega, by omega⟩
  have h1 := by_1 a ha
  have h2 := by_1 b hb
  rw [nb_1 ha hb, nb_2 h1.2.1.1 h2.2.1.1, nb_3 ha hb, nb_45 h1.2.2.2.2.2.2.2 h2.2.2.2.2.2.2.2, cnt_16 ha hb]
theorem bc_I {x : Nat} (hx : x < 65536) : bc5 (bc4 (bc3 (bc2 (bc1 (nI x))))) = nI (nb5 (nb4 (nb3 (nb2 (nb1 x))))) := by
  have e1 : bc1 (nI x) = nI (nb1 x) := by
    unfold bc1 nb1
    rw [ush_1 (by omega), show (1431655765 : Int32) = nI 1431655765 from rfl, and_nI, nI_sub]
    exact Nat.le_trans Nat.and_le_left (by rw [Nat.shiftRight_eq_div_pow]; omega)
  have l1 : nb1 x ≤ x := Nat.sub_le _ _
  have e2 : bc2 (nI (nb1 x)) = nI (nb2 (nb1 x)) := by
    unfold bc2 nb2
    rw [ush_2 (by omega), show (858993459 : Int32) = nI 858993459 from rfl, and_nI, and_nI, nI_add]
  have l2 : nb2 (nb1 x) ≤ 1717986918 := by
    have a1 : nb1 x &&& 858993459 ≤ 858993459 := Nat.and_le_right
    have a2 : (nb1 x >>> 2) &&& 858993459 ≤ 858993459 := Nat.and_le_right
    unfold nb2
    omega
  generalize nb2 (nb1 x) = y at *
  have e3 : bc3 (nI y) = nI (nb3 y) := by
    unfold bc3 nb3
    rw [ush_4 (by omega), nI_add, show (252645135 : Int32) = nI 252645135 from rfl, and_nI]
  have l3 : nb3 y ≤ 252645135 := Nat.and_le_right
  generalize nb3 y = w at *
  have e4 : bc4 (nI w) = nI (nb4 w) := by
    unfold bc4 nb4
    rw [ush_8 (by omega), nI_add]
  have l4 : nb4 w ≤ 505290270 := by
    unfold nb4
    rw [Nat.shiftRight_eq_div_pow]
    omega
  have e5 : bc5 (nI (nb4 w)) = nI (nb5 (nb4 w)) := by
    unfold bc5 nb5
    rw [ush_16 (by omega), nI_add, and_nI]
  rw [e1, e2, e3, e4, e5]
theorem bcF {x : Nat} (hx : x < 65536) : bc5 (bc4 (bc3 (bc2 (bc1 (nI x))))) = nI (cnt (tb x) 16) := by rw [bc_I hx, bc_N hx]
set_option maxRecDepth 4000 in
theorem cx_bitCount {E : En} (hok : EOK E) {h : Hp} {x : Nat} (hx : x < 65536) : Call E m_J6_bitCount_0f7a4 0 0 0 [vI (nI x)] h (fun r0 h' => r0 = some (vI (nI (cnt (tb x) 16))) ∧ h = h') := by
  refine Call.enter hok (by decide) (Nat.le_of_ble_eq_true rfl) ?_
  show G E m_J6_bitCount_0f7a4 0 0 0 _ h 0 [some (vI (nI x))] [] h 0 0
  refine g_iload_n (pc' := 1) dJ6_bitCount_0f7a4_0 rfl rfl ?_
  refine g_iload_n (pc' := 2) dJ6_bitCount_0f7a4_1 rfl rfl ?_
  refine g_iconstN (n := 1) (pc' := 3) dJ6_bitCount_0f7a4_2 rfl ?_
  refine g_iushr (pc' := 4) dJ6_bitCount_0f7a4_3 rfl rfl ?_
  refine g_ldcw (pc' := 7) dJ6_bitCount_0f7a4_4 rfl kc_J6_265 ?_
  refine g_iand (pc' := 8) dJ6_bitCount_0f7a4_7 rfl ?_
  refine g_isub (pc' := 9) dJ6_bitCount_0f7a4_8 rfl ?_
  refine g_istore_n (pc' := 10) dJ6_bitCount_0f7a4_9 rfl (by decide) rfl ?_
  try simp only [List.set]
  refine g_iload_n (pc' := 11) dJ6_bitCount_0f7a4_10 rfl rfl ?_
  refine g_ldcw (pc' := 14) dJ6_bitCount_0f7a4_11 rfl kc_J6_266 ?_
  refine g_iand (pc' := 15) dJ6_bitCount_0f7a4_14 rfl ?_
  refine g_iload_n (pc' := 16) dJ6_bitCount_0f7a4_15 rfl rfl ?_
  refine g_iconstN (n := 2) (pc' := 17) dJ6_bitCount_0f7a4_16 rfl ?_
  refine g_iushr (pc' := 18) dJ6_bitCount_0f7a4_17 rfl rfl ?_
  refine g_ldcw (pc' := 21) dJ6_bitCount_0f7a4_18 rfl kc_J6_266 ?_
  refine g_iand (pc' := 22) dJ6_bitCount_0f7a4_21 rfl ?_
  refine g_iadd (pc' := 23) dJ6_bitCount_0f7a4_22 rfl ?_
  refine g_istore_n (pc' := 24) dJ6_bitCount_0f7a4_23 rfl (by decide) rfl ?_
  try simp only [List.set]
  refine g_iload_n (pc' := 25) dJ6_bitCount_0f7a4_24 rfl rfl ?_
  refine g_iload_n (pc' := 26) dJ6_bitCount_0f7a4_25 rfl rfl ?_
  refine g_iconstN (n := 4) (pc' := 27) dJ6_bitCount_0f7a4_26 rfl ?_
  refine g_iushr (pc' := 28) dJ6_bitCount_0f7a4_27 rfl rfl ?_
  refine g_iadd (pc' := 29) dJ6_bitCount_0f7a4_28 rfl ?_
  refine g_ldcw (pc' := 32) dJ6_bitCount_0f7a4_29 rfl kc_J6_267 ?_
  refine g_iand (pc' := 33) dJ6_bitCount_0f7a4_32 rfl ?_
  refine g_istore_n (pc' := 34) dJ6_bitCount_0f7a4_33 rfl (by decide) rfl ?_
  try simp only [List.set]
  refine g_iload_n (pc' := 35) dJ6_bitCount_0f7a4_34 rfl rfl ?_
  refine g_iload_n (pc' := 36) dJ6_bitCount_0f7a4_35 rfl rfl ?_
  refine g_bipushN (n := 8) (pc' := 38) dJ6_bitCount_0f7a4_36 rfl (by decide) ?_
  refine g_iushr (pc' := 39) dJ6_bitCount_0f7a4_38 rfl rfl ?_
  refine g_iadd (pc' := 40) dJ6_bitCount_0f7a4_39 rfl ?_
  refine g_istore_n (pc' := 41) dJ6_bitCount_0f7a4_40 rfl (by decide) rfl ?_
  try simp only [List.set]
  refine g_iload_n (pc' := 42) dJ6_bitCount_0f7a4_41 rfl rfl ?_
  refine g_iload_n (pc' := 43) dJ6_bitCount_0f7a4_42 rfl rfl ?_
  refine g_bipushN (n := 16) (pc' := 45) dJ6_bitCount_0f7a4_43 rfl (by decide) ?_
  refine g_iushr (pc' := 46) dJ6_bitCount_0f7a4_45 rfl rfl ?_
  refine g_iadd (pc' := 47) dJ6_bitCount_0f7a4_46 rfl ?_
  refine g_istore_n (pc' := 48) dJ6_bitCount_0f7a4_47 rfl (by decide) rfl ?_
  try simp only [List.set]
  refine g_iload_n (pc' := 49) dJ6_bitCount_0f7a4_48 rfl rfl ?_
  refine g_bipushN (n := 63) (pc' := 51) dJ6_bitCount_0f7a4_49 rfl (by decide) ?_
  refine g_iand (pc' := 52) dJ6_bitCount_0f7a4_51 rfl ?_
  refine g_iret dJ6_bitCount_0f7a4_52 rfl (by decide) (by decide) ?_
  exact ⟨congrArg (fun z : Int32 => some (vI z)) (bcF hx), rfl⟩
