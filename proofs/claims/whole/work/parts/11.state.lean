/-! branches on naturals -/
section GB
variable {E : En} {y : Mt} {d mc ms : Nat} {Q : Option V → Hp → Prop} {h0 : Hp} {pc pc' : Nat} {L : List (Option V)} {st : List V} {h : Hp} {cu su : Nat} {a b : Nat}
theorem g_icmp_eqN {off : Int} {tgt : Nat} (hd : decode y.2.1 pc = .ok (.if_icmp .eq off, 3)) (hp : pc + 3 = pc') (ht : (pc : Int) + off = (tgt : Int)) (ha : a < 2 ^ 31) (hb : b < 2 ^ 31) (kt : a = b → G E y d mc ms Q h0 tgt L st h cu su) (kf : ¬ a = b → G E y d mc ms Q h0 pc' L st h cu su) : G E y d mc ms Q h0 pc L (vI (nI b) :: vI (nI a) :: st) h cu su := g_icmp_eq hd hp ht (fun q => kt ((nI_eq ha hb).mp q)) (fun q => kf (fun z => q ((nI_eq ha hb).mpr z)))
theorem g_icmp_ltN {off : Int} {tgt : Nat} (hd : decode y.2.1 pc = .ok (.if_icmp .lt off, 3)) (hp : pc + 3 = pc') (ht : (pc : Int) + off = (tgt : Int)) (ha : a < 2 ^ 31) (hb : b < 2 ^ 31) (kt : a < b → G E y d mc ms Q h0 tgt L st h cu su) (kf : ¬ a < b → G E y d mc ms Q h0 pc' L st h cu su) : G E y d mc ms Q h0 pc L (vI (nI b) :: vI (nI a) :: st) h cu su := g_icmp_lt hd hp ht (fun q => kt ((nI_ltI ha hb).mp q)) (fun q => kf (fun z => q ((nI_ltI ha hb).mpr z)))
theorem g_icmp_geN {off : Int} {tgt : Nat} (hd : decode y.2.1 pc = .ok (.if_icmp .ge off, 3)) (hp : pc + 3 = pc') (ht : (pc : Int) + off = (tgt : Int)) (ha : a < 2 ^ 31) (hb : b < 2 ^ 31) (kt : b ≤ a → G E y d mc ms Q h0 tgt L st h cu su) (kf : ¬ b ≤ a → G E y d mc ms Q h0 pc' L st h cu su) : G E y d mc ms Q h0 pc L (vI (nI b) :: vI (nI a) :: st) h cu su := g_icmp_ge hd hp ht (fun q => kt ((nI_leI hb ha).mp q)) (fun q => kf (fun z => q ((nI_leI hb ha).mpr z)))
theorem g_icmp_gtN {off : Int} {tgt : Nat} (hd : decode y.2.1 pc = .ok (.if_icmp .gt off, 3)) (hp : pc + 3 = pc') (ht : (pc : Int) + off = (tgt : Int)) (ha : a < 2 ^ 31) (hb : b < 2 ^ 31) (kt : b < a → G E y d mc ms Q h0 tgt L st h cu su) (kf : ¬ b < a → G E y d mc ms Q h0 pc' L st h cu su) : G E y d mc ms Q h0 pc L (vI (nI b) :: vI (nI a) :: st) h cu su := g_icmp_gt hd hp ht (fun q => kt ((nI_ltI hb ha).mp q)) (fun q => kf (fun z => q ((nI_ltI hb ha).mpr z)))
theorem g_icmp_leN {off : Int} {tgt : Nat} (hd : decode y.2.1 pc = .ok (.if_icmp .le off, 3)) (hp : pc + 3 = pc') (ht : (pc : Int) + off = (tgt : Int)) (ha : a < 2 ^ 31) (hb : b < 2 ^ 31) (kt : a ≤ b → G E y d mc ms Q h0 tgt L st h cu su) (kf : ¬ a ≤ b → G E y d mc ms Q h0 pc' L st h cu su) : G E y d mc ms Q h0 pc L (vI (nI b) :: vI (nI a) :: st) h cu su := g_icmp_le hd hp ht (fun q => kt ((nI_leI ha hb).mp q)) (fun q => kf (fun z => q ((nI_leI ha hb).mpr z)))
theorem g_icmp_neN {off : Int} {tgt : Nat} (hd : decode y.2.1 pc = .ok (.if_icmp .ne off, 3)) (hp : pc + 3 = pc') (ht : (pc : Int) + off = (tgt : Int)) (ha : a < 2 ^ 31) (hb : b < 2 ^ 31) (kt : ¬ a = b → G E y d mc ms Q h0 tgt L st h cu su) (kf : a = b → G E y d mc ms Q h0 pc' L st h cu su) : G E y d mc ms Q h0 pc L (vI (nI b) :: vI (nI a) :: st) h cu su := g_icmp_ne hd hp ht (fun q => kt (fun z => q ((nI_eq ha hb).mpr z))) (fun q => kf ((nI_eq ha hb).mp q))
end GB
/-! what the state is: the reference's numbers, by site -/
abbrev TH : Ad := (0, 0)
abbrev MO : Ad := (1, 0)
theorem n1 : nI 1 = 1 := rfl
abbrev St : Type := Nat → Nat → Int32
def isM (s : Nat) : Bool := Nat.beq s 1 || Nat.ble 100 s
def mo (h : Hp) : St := fun s => match isM s with
  | true => h.1 (s, 0)
  | false => fun _ => 0
def stU (m : St) (s j : Nat) (x : Int32) : St := fun s' => if s' = s then upd (m s) j x else m s'
theorem mo_t {h : Hp} {s : Nat} (hs : isM s = true) : mo h s = h.1 (s, 0) := by unfold mo; rw [hs]
theorem mo_f {h : Hp} {s : Nat} (hs : isM s = false) : mo h s = fun _ => 0 := by unfold mo; rw [hs]
theorem mo_wI {h : Hp} {s j : Nat} {x : Int32} (hs : isM s = true) : mo (wI h (s, 0) j x) = stU (mo h) s j x := by
  funext s'
  unfold stU
  by_cases e : s' = s
  · subst e
    rw [if_pos rfl, mo_t hs, mo_t hs]
    exact if_pos rfl
  · rw [if_neg e]
    cases hm : isM s' with
    | false => rw [mo_f hm, mo_f hm]
    | true =>
      rw [mo_t hm, mo_t hm]
      exact if_neg (fun z => e (by injection z))
theorem mo_off {h : Hp} {a : Ad} {j : Nat} {x : Int32} (hs : isM a.1 = false) : mo (wI h a j x) = mo h := by
  funext s'
  cases hm : isM s' with
  | false => rw [mo_f hm, mo_f hm]
  | true =>
    rw [mo_t hm, mo_t hm]
    exact if_neg (fun z => by rw [← z] at hs; rw [hs] at hm; cases hm)
theorem mo_wR {h : Hp} {a : Ad} {j : Nat} {r : Option Ad} : mo (wR h a j r) = mo h := rfl
/-- truth as the machine has it -/
noncomputable def bi (P : Prop) : Int32 := @ite Int32 P (Classical.propDecidable P) 1 0
theorem bi_t {P : Prop} (q : P) : bi P = 1 := if_pos q
theorem bi_f {P : Prop} (q : ¬ P) : bi P = 0 := if_neg q
theorem bi_of {P Q : Prop} (q : P ↔ Q) : bi P = bi Q := congrArg bi (propext q)
theorem bi_if {P : Prop} [Decidable P] : (if P then (1 : Int32) else 0) = bi P := by
  by_cases q : P
  · rw [bi_t q, if_pos q]
  · rw [bi_f q, if_neg q]
theorem bi_0 {P : Prop} : bi P = 0 ↔ ¬ P := ⟨fun q z => by rw [bi_t z] at q; exact absurd q (by decide), bi_f⟩
theorem nbB {P : Prop} : narrow .boolean (.int (bi P)) = .int (bi P) := by
  by_cases q : P
  · rw [bi_t q]; rfl
  · rw [bi_f q]; rfl
section GBB
variable {E : En} {y : Mt} {d mc ms : Nat} {Q : Option V → Hp → Prop} {h0 : Hp} {pc pc' : Nat} {L : List (Option V)} {st : List V} {h : Hp} {cu su : Nat}
theorem g_ifB_eq {P : Prop} {off : Int} {tgt : Nat} (hd : decode y.2.1 pc = .ok (.ifCond .eq off, 3)) (hp : pc + 3 = pc') (ht : (pc : Int) + off = (tgt : Int)) (kt : ¬ P → G E y d mc ms Q h0 tgt L st h cu su) (kf : P → G E y d mc ms Q h0 pc' L st h cu su) : G E y d mc ms Q h0 pc L (vI (bi P) :: st) h cu su :=
  g_if_eq hd hp ht (fun q => kt (bi_0.mp q)) (fun q => kf (Classical.byContradiction fun z => q (bi_0.mpr z)))
theorem g_ifB_ne {P : Prop} {off : Int} {tgt : Nat} (hd : decode y.2.1 pc = .ok (.ifCond .ne off, 3)) (hp : pc + 3 = pc') (ht : (pc : Int) + off = (tgt : Int)) (kt : P → G E y d mc ms Q h0 tgt L st h cu su) (kf : ¬ P → G E y d mc ms Q h0 pc' L st h cu su) : G E y d mc ms Q h0 pc L (vI (bi P) :: st) h cu su :=
  g_if_ne hd hp ht (fun q => kt (Classical.byContradiction fun z => q (bi_0.mpr z))) (fun q => kf (bi_0.mp q))
end GBB
noncomputable def cnt (p : Nat → Prop) : Nat → Nat
  | 0 => 0
  | n + 1 => cnt p n + @ite Nat (p n) (Classical.propDecidable (p n)) 1 0
theorem cnt_t {p : Nat → Prop} {n : Nat} (q : p n) : cnt p (n + 1) = cnt p n + 1 := by
  show cnt p n + _ = _
  rw [if_pos q]
theorem cnt_f {p : Nat → Prop} {n : Nat} (q : ¬ p n) : cnt p (n + 1) = cnt p n + 0 := by
  show cnt p n + _ = _
  rw [if_neg q]
theorem cnt_le (p : Nat → Prop) : ∀ n, cnt p n ≤ n
  | 0 => Nat.le_refl 0
  | n + 1 => by
    have ih := cnt_le p n
    by_cases q : p n
    · rw [cnt_t q]; omega
    · rw [cnt_f q]; omega
theorem cnt_congr {p q : Nat → Prop} : ∀ {n : Nat}, (∀ k, k < n → (p k ↔ q k)) → cnt p n = cnt q n
  | 0, _ => rfl
  | n + 1, hh => by
    have ih := cnt_congr (n := n) (fun k hk => hh k (by omega))
    by_cases z : p n
    · rw [cnt_t z, cnt_t ((hh n (by omega)).mp z), ih]
    · rw [cnt_f z, cnt_f (fun w => z ((hh n (by omega)).mpr w)), ih]
def sm (f : Nat → Int32) : Nat → Int32
  | 0 => 0
  | n + 1 => sm f n + f n
theorem sm_congr {f g : Nat → Int32} : ∀ {n : Nat}, (∀ k, k < n → f k = g k) → sm f n = sm g n
  | 0, _ => rfl
  | n + 1, hh => by
    unfold sm
    rw [sm_congr (fun k hk => hh k (by omega)), hh n (by omega)]
theorem sm_s (f : Nat → Int32) (n : Nat) : sm f (n + 1) = sm f n + f n := rfl
def orr (f : Nat → Int32) : Nat → Int32
  | 0 => 0
  | n + 1 => orr f n ||| f n
theorem orr_congr {f g : Nat → Int32} : ∀ {n : Nat}, (∀ k, k < n → f k = g k) → orr f n = orr g n
  | 0, _ => rfl
  | n + 1, hh => by
    unfold orr
    rw [orr_congr (fun k hk => hh k (by omega)), hh n (by omega)]
/-- the reference's counts -/
def nTl (m : St) : Nat := (m 1 1).toNatClampNeg
def nK (m : St) : Nat := (m 1 3).toNatClampNeg
def nT (m : St) : Nat := (m 1 4).toNatClampNeg
def nF (m : St) : Nat := (m 1 5).toNatClampNeg
def nR (m : St) : Nat := (m 1 59).toNatClampNeg
def nGf (m : St) : Nat := (m 1 60).toNatClampNeg
def nA (m : St) : Nat := (m 1 70).toNatClampNeg
def kd (m : St) (t : Nat) : Nat := (m 115 t).toNatClampNeg
/-- what always holds of the reference's numbers -/
def Wf (m : St) : Prop := (m 1 1 = nI (nTl m) ∧ nTl m ≤ 220) ∧ (m 1 3 = nI (nK m) ∧ nK m ≤ 8) ∧ (m 1 4 = nI (nT m) ∧ nT m ≤ 16) ∧ (m 1 5 = nI (nF m) ∧ nF m ≤ 10) ∧ (m 1 59 = nI (nR m) ∧ nR m ≤ 10) ∧ (m 1 60 = nI (nGf m) ∧ nGf m ≤ 20) ∧ (m 1 70 = nI (nA m) ∧ nA m ≤ 512) ∧ (∀ t, t < nT m → m 115 t = nI (kd m t) ∧ kd m t < nK m)
theorem Wf.tl {m : St} (w : Wf m) : m 1 1 = nI (nTl m) ∧ nTl m ≤ 220 := w.1
theorem Wf.k {m : St} (w : Wf m) : m 1 3 = nI (nK m) ∧ nK m ≤ 8 := w.2.1
theorem Wf.t {m : St} (w : Wf m) : m 1 4 = nI (nT m) ∧ nT m ≤ 16 := w.2.2.1
theorem Wf.f {m : St} (w : Wf m) : m 1 5 = nI (nF m) ∧ nF m ≤ 10 := w.2.2.2.1
theorem Wf.r {m : St} (w : Wf m) : m 1 59 = nI (nR m) ∧ nR m ≤ 10 := w.2.2.2.2.1
theorem Wf.g {m : St} (w : Wf m) : m 1 60 = nI (nGf m) ∧ nGf m ≤ 20 := w.2.2.2.2.2.1
theorem Wf.a {m : St} (w : Wf m) : m 1 70 = nI (nA m) ∧ nA m ≤ 512 := w.2.2.2.2.2.2.1
theorem Wf.kd {m : St} (w : Wf m) {t : Nat} (ht : t < nT m) : m 115 t = nI (kd m t) ∧ kd m t < nK m := w.2.2.2.2.2.2.2 t ht
/-- the script's numbers as places -/
def inN (x : Int32) (n : Nat) : Prop := 0 ≤ x ∧ x ≤ nI n - 1
theorem inN_iff {x : Int32} {n : Nat} (hn : n < 1000) : (0 ≤ x ∧ x ≤ nI n - nI 1) ↔ ∃ j : Nat, j < n ∧ x = nI j := by
  have e : (nI n - nI 1).toInt = (n : Int) - 1 := pk_sub_toInt (a := n) (b := 1) (by omega) (by omega)
  rw [Int32.le_iff_toInt_le, Int32.le_iff_toInt_le, e]
  constructor
  · rintro ⟨h1, h2⟩
    have h1' : (0 : Int) ≤ x.toInt := h1
    refine ⟨x.toInt.toNat, by omega, ?_⟩
    rw [← Int32.toInt_inj, nI_toInt (by omega)]
    omega
  · rintro ⟨j, hj, rfl⟩
    rw [nI_toInt (by omega)]
    exact ⟨by show (0 : Int) ≤ _; omega, by omega⟩
/-! the reference's own questions -/
noncomputable def wfr (m : St) (k : Nat) : Nat := cnt (fun f => ¬ m 186 (8 * f + k) = -1) (nF m)
noncomputable def hsT (m : St) (f : Int32) : Nat := cnt (fun t => m 118 t = 1 ∧ m 119 t = f) (nT m)
def lck (m : St) (t : Nat) : Int32 := sm (fun s => m 113 (6 * kd m t + s) - m 125 (6 * t + s)) 6
def isOfm (m : St) (r t : Nat) : Prop := m 161 r = m 111 (kd m t) ∧ m 162 r ≤ m 116 t ∧ m 116 t ≤ m 163 r
def isRec (m : St) (t : Nat) : Prop := ∃ r, r < nR m ∧ isOfm m r t
def termBars (m : St) (g f : Nat) : Prop := (m 168 g = 0 ∧ ¬ m 128 f = m 169 g) ∨ (m 168 g = 1 ∧ nI f = m 169 g) ∨ (m 168 g = 2 ∧ m 169 g < m 1 2) ∨ (m 168 g = 3 ∧ m 127 f < m 169 g)
def barred (m : St) (t f : Nat) : Prop := ∃ g, g < nGf m ∧ m 167 g = nI t ∧ termBars m g f
def bagW (m : St) (t : Nat) : Int32 := m 1 6 + sm (fun s => m 125 (6 * t + s) * m 114 (6 * kd m t + s)) 6
def mndT (m : St) (t : Nat) : Int32 := sm (fun s => m 191 s * (m 113 (6 * kd m t + s) - m 125 (6 * t + s))) 6
