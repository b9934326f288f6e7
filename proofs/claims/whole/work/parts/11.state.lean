/-! branches on naturals -/
section GB
variable {E : En} {y : Mt} {d mc ms : Nat} {Q : Option V → Hp → Prop} {h0 : Hp} {pc pc' : Nat} {L : List (Option V)} {st : List V} {h : Hp} {cu su : Nat} {a b : Nat}
theorem g_icmp_eqN {off : Int} {tgt : Nat} (hd : decode y.2.1 pc = .ok (.if_icmp .eq off, 3)) (hp : pc + 3 = pc') (ht : (pc : Int) + off = (tgt : Int)) (ha : a < 2 ^ 31) (hb : b < 2 ^ 31) (kt : a = b → G E y d mc ms Q h0 tgt L st h cu su) (kf : ¬ a = b → G E y d mc ms Q h0 pc' L st h cu su) : G E y d mc ms Q h0 pc L (vI (nI b) :: vI (nI a) :: st) h cu su := g_icmp_eq hd hp ht (fun q => kt ((nI_eq ha hb).mp q)) (fun q => kf (fun z => q ((nI_eq ha hb).mpr z)))
theorem g_icmp_ltN {off : Int} {tgt : Nat} (hd : decode y.2.1 pc = .ok (.if_icmp .lt off, 3)) (hp : pc + 3 = pc') (ht : (pc : Int) + off = (tgt : Int)) (ha : a < 2 ^ 31) (hb : b < 2 ^ 31) (kt : a < b → G E y d mc ms Q h0 tgt L st h cu su) (kf : ¬ a < b → G E y d mc ms Q h0 pc' L st h cu su) : G E y d mc ms Q h0 pc L (vI (nI b) :: vI (nI a) :: st) h cu su := g_icmp_lt hd hp ht (fun q => kt ((nI_ltI ha hb).mp q)) (fun q => kf (fun z => q ((nI_ltI ha hb).mpr z)))
theorem g_icmp_geN {off : Int} {tgt : Nat} (hd : decode y.2.1 pc = .ok (.if_icmp .ge off, 3)) (hp : pc + 3 = pc') (ht : (pc : Int) + off = (tgt : Int)) (ha : a < 2 ^ 31) (hb : b < 2 ^ 31) (kt : b ≤ a → G E y d mc ms Q h0 tgt L st h cu su) (kf : ¬ b ≤ a → G E y d mc ms Q h0 pc' L st h cu su) : G E y d mc ms Q h0 pc L (vI (nI b) :: vI (nI a) :: st) h cu su := g_icmp_ge hd hp ht (fun q => kt ((nI_leI hb ha).mp q)) (fun q => kf (fun z => q ((nI_leI hb ha).mpr z)))
theorem g_icmp_gtN {off : Int} {tgt : Nat} (hd : decode y.2.1 pc = .ok (.if_icmp .gt off, 3)) (hp : pc + 3 = pc') (ht : (pc : Int) + off = (tgt : Int)) (ha : a < 2 ^ 31) (hb : b < 2 ^ 31) (kt : b < a → G E y d mc ms Q h0 tgt L st h cu su) (kf : ¬ b < a → G E y d mc ms Q h0 pc' L st h cu su) : G E y d mc ms Q h0 pc L (vI (nI b) :: vI (nI a) :: st) h cu su := g_icmp_gt hd hp ht (fun q => kt ((nI_ltI hb ha).mp q)) (fun q => kf (fun z => q ((nI_ltI hb ha).mpr z)))
theorem g_icmp_leN {off : Int} {tgt : Nat} (hd : decode y.2.1 pc = .ok (.if_icmp .le off, 3)) (hp : pc + 3 = pc') (ht : (pc : Int) + off = (tgt : Int)) (ha : a < 2 ^ 31) (hb : b < 2 ^ 31) (kt : a ≤ b → G E y d mc ms Q h0 tgt L st h cu su) (kf : ¬ a ≤ b → G E y d mc ms Q h0 pc' L st h cu su) : G E y d mc ms Q h0 pc L (vI (nI b) :: vI (nI a) :: st) h cu su := g_icmp_le hd hp ht (fun q => kt ((nI_leI ha hb).mp q)) (fun q => kf (fun z => q ((nI_leI ha hb).mpr z)))
theorem g_icmp_neN {off : Int} {tgt : Nat} (hd : decode y.2.1 pc = .ok (.if_icmp .ne off, 3)) (hp : pc + 3 = pc') (ht : (pc : Int) + off = (tgt : Int)) (ha : a < 2 ^ 31) (hb : b < 2 ^ 31) (kt : ¬ a = b → G E y d mc ms Q h0 tgt L st h cu su) (kf : a = b → G E y d mc ms Q h0 pc' L st h cu su) : G E y d mc ms Q h0 pc L (vI (nI b) :: vI (nI a) :: st) h cu su := g_icmp_ne hd hp ht (fun q => kt (fun z => q ((nI_eq ha hb).mpr z))) (fun q => kf ((nI_eq ha hb).mp q))
theorem nI_le0 {a : Nat} (ha : a < 2 ^ 31) : nI a ≤ 0 ↔ a = 0 := by
  have := nI_leI (a := a) (b := 0) ha (by decide)
  rw [nI_0] at this
  rw [this]; omega
theorem nI_lt0 {a : Nat} (ha : a < 2 ^ 31) : 0 < nI a ↔ ¬ a = 0 := by
  rw [← nI_le0 ha, Int32.not_le]
theorem nI_eq0 {a : Nat} (ha : a < 2 ^ 31) : nI a = 0 ↔ a = 0 := by
  have := nI_eq (a := a) (b := 0) ha (by decide)
  rw [nI_0] at this
  exact this
theorem g_if_leN {off : Int} {tgt : Nat} (hd : decode y.2.1 pc = .ok (.ifCond .le off, 3)) (hp : pc + 3 = pc') (ht : (pc : Int) + off = (tgt : Int)) (ha : a < 2 ^ 31) (kt : a = 0 → G E y d mc ms Q h0 tgt L st h cu su) (kf : ¬ a = 0 → G E y d mc ms Q h0 pc' L st h cu su) : G E y d mc ms Q h0 pc L (vI (nI a) :: st) h cu su := g_if_le hd hp ht (fun q => kt ((nI_le0 ha).mp q)) (fun q => kf (fun z => q ((nI_le0 ha).mpr z)))
theorem g_if_gtN {off : Int} {tgt : Nat} (hd : decode y.2.1 pc = .ok (.ifCond .gt off, 3)) (hp : pc + 3 = pc') (ht : (pc : Int) + off = (tgt : Int)) (ha : a < 2 ^ 31) (kt : ¬ a = 0 → G E y d mc ms Q h0 tgt L st h cu su) (kf : a = 0 → G E y d mc ms Q h0 pc' L st h cu su) : G E y d mc ms Q h0 pc L (vI (nI a) :: st) h cu su := g_if_gt hd hp ht (fun q => kt ((nI_lt0 ha).mp q)) (fun q => kf (Classical.byContradiction fun z => q ((nI_lt0 ha).mpr z)))
theorem g_if_eqN {off : Int} {tgt : Nat} (hd : decode y.2.1 pc = .ok (.ifCond .eq off, 3)) (hp : pc + 3 = pc') (ht : (pc : Int) + off = (tgt : Int)) (ha : a < 2 ^ 31) (kt : a = 0 → G E y d mc ms Q h0 tgt L st h cu su) (kf : ¬ a = 0 → G E y d mc ms Q h0 pc' L st h cu su) : G E y d mc ms Q h0 pc L (vI (nI a) :: st) h cu su := g_if_eq hd hp ht (fun q => kt ((nI_eq0 ha).mp q)) (fun q => kf (fun z => q ((nI_eq0 ha).mpr z)))
theorem g_if_neN {off : Int} {tgt : Nat} (hd : decode y.2.1 pc = .ok (.ifCond .ne off, 3)) (hp : pc + 3 = pc') (ht : (pc : Int) + off = (tgt : Int)) (ha : a < 2 ^ 31) (kt : ¬ a = 0 → G E y d mc ms Q h0 tgt L st h cu su) (kf : a = 0 → G E y d mc ms Q h0 pc' L st h cu su) : G E y d mc ms Q h0 pc L (vI (nI a) :: st) h cu su := g_if_ne hd hp ht (fun q => kt (fun z => q ((nI_eq0 ha).mpr z))) (fun q => kf ((nI_eq0 ha).mp q))
end GB
/-! what the state is: the reference's numbers, by site -/
abbrev TH : Ad := (0, 0)
abbrev MO : Ad := (1, 0)
theorem n1 : nI 1 = 1 := rfl
abbrev St : Type := Nat → Nat → Int32
/-- of a site: 0 none of the reference's, or scratch of it; 1 its own fields; 2 its arrays -/
def kS (s : Nat) : Nat := if Nat.beq s 1 then 1 else if Nat.ble 100 s && !(Nat.ble 137 s && Nat.ble s 142 || Nat.beq s 152 || Nat.beq s 157 || Nat.beq s 158 || Nat.beq s 180 || Nat.beq s 181 || Nat.beq s 188 || Nat.beq s 189 || Nat.beq s 190) then 2 else 0
/-- its fields that are scratch -/
def scr (j : Nat) : Bool := (Nat.ble 43 j && Nat.ble j 51) || (Nat.ble 53 j && Nat.ble j 56) || (Nat.ble 82 j && Nat.ble j 85)
def mo (h : Hp) : St := fun s => match kS s with
  | 2 => h.1 (s, 0)
  | 1 => fun j => match scr j with
    | true => 0
    | false => h.1 (1, 0) j
  | _ => fun _ => 0
def stU (m : St) (s j : Nat) (x : Int32) : St := fun s' => if s' = s then upd (m s) j x else m s'
theorem stU_at (m : St) (s j : Nat) (x : Int32) (s' i : Nat) : stU m s j x s' i = if s' = s ∧ i = j then x else m s' i := by
  unfold stU upd
  by_cases e : s' = s
  · subst e
    by_cases f : i = j <;> simp [f]
  · simp [e]
theorem mo_2 {h : Hp} {s : Nat} (hs : kS s = 2) : mo h s = h.1 (s, 0) := by unfold mo; rw [hs]; rfl
theorem mo_1 {h : Hp} {j : Nat} (hj : scr j = false) : mo h 1 j = h.1 (1, 0) j := by
  show (match scr j with | true => (0 : Int32) | false => h.1 (1, 0) j) = _
  rw [hj]
theorem mo_1s {h : Hp} {j : Nat} (hj : scr j = true) : mo h 1 j = 0 := by
  show (match scr j with | true => (0 : Int32) | false => h.1 (1, 0) j) = _
  rw [hj]
theorem kS_1 {s : Nat} (hs : kS s = 1) : s = 1 := by
  unfold kS at hs
  split at hs
  · rename_i q; exact Nat.eq_of_beq_eq_true q
  · split at hs <;> cases hs
theorem kS_c (s : Nat) : kS s = 0 ∨ kS s = 1 ∨ kS s = 2 := by
  unfold kS
  split
  · exact Or.inr (Or.inl rfl)
  · split
    · exact Or.inr (Or.inr rfl)
    · exact Or.inl rfl
theorem mo_0 {h : Hp} {s : Nat} (hs : kS s = 0) : mo h s = fun _ => 0 := by unfold mo; rw [hs]; rfl
/-- an array of the reference is written -/
theorem mo_wI {h : Hp} {s j : Nat} {x : Int32} (hs : kS s = 2) : mo (wI h (s, 0) j x) = stU (mo h) s j x := by
  funext s'
  unfold stU
  by_cases e : s' = s
  · subst e
    rw [if_pos rfl, mo_2 hs, mo_2 hs]
    exact if_pos rfl
  · rw [if_neg e]
    rcases kS_c s' with hm | hm | hm
    · rw [mo_0 hm, mo_0 hm]
    · have := kS_1 hm
      subst this
      funext i
      cases hc : scr i with
      | true => rw [mo_1s hc, mo_1s hc]
      | false => rw [mo_1 hc, mo_1 hc, wI_at, if_neg (fun z => e (by injection z.1))]
    · rw [mo_2 hm, mo_2 hm]
      exact if_neg (fun z => e (by injection z))
/-- a field of it -/
theorem mo_wF {h : Hp} {j : Nat} {x : Int32} (hj : scr j = false) : mo (wI h MO j x) = stU (mo h) 1 j x := by
  funext s' i
  rw [stU_at]
  rcases kS_c s' with hm | hm | hm
  · rw [mo_0 hm, mo_0 hm, if_neg (fun z => by rw [z.1] at hm; cases hm)]
  · have := kS_1 hm
    subst this
    cases hc : scr i with
    | true => rw [mo_1s hc, mo_1s hc, if_neg (fun z => by rw [z.2, hj] at hc; cases hc)]
    | false =>
      rw [mo_1 hc, mo_1 hc, wI_at]
      by_cases e : i = j
      · rw [if_pos ⟨rfl, e⟩, if_pos ⟨rfl, e⟩]
      · rw [if_neg (fun z => e z.2), if_neg (fun z => e z.2)]
  · rw [mo_2 hm, mo_2 hm, wI_at, if_neg (fun z => by have := z.1; injection this with q; rw [q] at hm; cases hm), if_neg (fun z => by rw [z.1] at hm; cases hm)]
/-- scratch, or the class's own -/
theorem mo_wS {h : Hp} {j : Nat} {x : Int32} (hj : scr j = true) : mo (wI h MO j x) = mo h := by
  funext s' i
  rcases kS_c s' with hm | hm | hm
  · rw [mo_0 hm, mo_0 hm]
  · have := kS_1 hm
    subst this
    cases hc : scr i with
    | true => rw [mo_1s hc, mo_1s hc]
    | false => rw [mo_1 hc, mo_1 hc, wI_at, if_neg (fun z => by rw [z.2, hj] at hc; cases hc)]
  · rw [mo_2 hm, mo_2 hm, wI_at, if_neg (fun z => by have := z.1; injection this with q; rw [q] at hm; cases hm)]
theorem mo_off {h : Hp} {a : Ad} {j : Nat} {x : Int32} (hs : kS a.1 = 0) : mo (wI h a j x) = mo h := by
  funext s' i
  rcases kS_c s' with hm | hm | hm
  · rw [mo_0 hm, mo_0 hm]
  · have := kS_1 hm
    subst this
    cases hc : scr i with
    | true => rw [mo_1s hc, mo_1s hc]
    | false => rw [mo_1 hc, mo_1 hc, wI_at, if_neg (fun z => by rw [← z.1] at hs; cases hs)]
  · rw [mo_2 hm, mo_2 hm, wI_at, if_neg (fun z => by rw [← z.1, hm] at hs; cases hs)]
theorem mo_wR {h : Hp} {a : Ad} {j : Nat} {r : Option Ad} : mo (wR h a j r) = mo h := rfl
/-- the reference's cells alone may have changed -/
def Mk (h h' : Hp) : Prop := h'.2 = h.2 ∧ ∀ a : Ad, a.1 ≠ 1 → a.1 < 100 → h'.1 a = h.1 a
theorem Mk.rf (h : Hp) : Mk h h := ⟨rfl, fun _ _ _ => rfl⟩
theorem Mk.tr {a b c : Hp} (x : Mk a b) (y : Mk b c) : Mk a c := ⟨y.1.trans x.1, fun q h1 h2 => (y.2 q h1 h2).trans (x.2 q h1 h2)⟩
theorem Mk.w {h h' : Hp} {s i j : Nat} {x : Int32} (k : Mk h h') (hs : s = 1 ∨ 100 ≤ s) : Mk h (wI h' (s, i) j x) := ⟨k.1, fun a h1 h2 => by
  have e : a ≠ (s, i) := fun z => by
    rw [z] at h1 h2
    rcases hs with q | q
    · exact h1 q
    · exact absurd h2 (Nat.not_lt.mpr q)
  rw [wI_off h' (s, i) j x a e]
  exact k.2 a h1 h2⟩
/-- n places of a row written, one after the other -/
def wN (h : Hp) (a : Ad) (b : Nat) (f : Nat → Int32) : Nat → Hp
  | 0 => h
  | n + 1 => wI (wN h a b f n) a (b + n) (f n)
def stN (m : St) (s b : Nat) (f : Nat → Int32) : Nat → St
  | 0 => m
  | n + 1 => stU (stN m s b f n) s (b + n) (f n)
theorem wN_2 (h : Hp) (a : Ad) (b : Nat) (f : Nat → Int32) : ∀ n, (wN h a b f n).2 = h.2
  | 0 => rfl
  | n + 1 => wN_2 h a b f n
theorem wN_off (h : Hp) (a : Ad) (b : Nat) (f : Nat → Int32) {c : Ad} (hc : c ≠ a) : ∀ n, (wN h a b f n).1 c = h.1 c
  | 0 => rfl
  | n + 1 => (wI_off _ _ _ _ c hc).trans (wN_off h a b f hc n)
theorem mo_wN {h : Hp} {s b : Nat} {f : Nat → Int32} (hs : kS s = 2) : ∀ n, mo (wN h (s, 0) b f n) = stN (mo h) s b f n
  | 0 => rfl
  | n + 1 => by
    show mo (wI (wN h (s, 0) b f n) (s, 0) (b + n) (f n)) = stU (stN (mo h) s b f n) s (b + n) (f n)
    rw [mo_wI hs, mo_wN hs n]
theorem Mk.n {h h' : Hp} {s i b : Nat} {f : Nat → Int32} (k : Mk h h') (hs : s = 1 ∨ 100 ≤ s) : ∀ n, Mk h (wN h' (s, i) b f n)
  | 0 => k
  | n + 1 => (Mk.n k hs n).w hs
noncomputable def cif {α : Type} (P : Prop) (a b : α) : α := @ite α P (Classical.propDecidable P) a b
theorem cif_t {α : Type} {P : Prop} {a b : α} (q : P) : cif P a b = a := if_pos q
theorem cif_f {α : Type} {P : Prop} {a b : α} (q : ¬ P) : cif P a b = b := if_neg q
/-- truth as the machine has it -/
noncomputable def bi (P : Prop) : Int32 := @ite Int32 P (Classical.propDecidable P) 1 0
theorem bi_t {P : Prop} (q : P) : bi P = 1 := if_pos q
theorem bi_f {P : Prop} (q : ¬ P) : bi P = 0 := if_neg q
theorem bi_of {P Q : Prop} (q : P ↔ Q) : bi P = bi Q := congrArg bi (propext q)
theorem bi_if {P : Prop} [Decidable P] : (if P then (1 : Int32) else 0) = bi P := by
  by_cases q : P
  · rw [bi_t q, if_pos q]
  · rw [bi_f q, if_neg q]
theorem bi_0 {P : Prop} : bi P = 0 ↔ ¬ P := ⟨fun q z => by rw [bi_t z] at q; exact absurd q (by decide), bi_f⟩
theorem nbB {P : Prop} : narrow .boolean (.int (bi P)) = .int (bi P) := by
  by_cases q : P
  · rw [bi_t q]; rfl
  · rw [bi_f q]; rfl
section GBB
variable {E : En} {y : Mt} {d mc ms : Nat} {Q : Option V → Hp → Prop} {h0 : Hp} {pc pc' : Nat} {L : List (Option V)} {st : List V} {h : Hp} {cu su : Nat}
theorem g_ifB_eq {P : Prop} {off : Int} {tgt : Nat} (hd : decode y.2.1 pc = .ok (.ifCond .eq off, 3)) (hp : pc + 3 = pc') (ht : (pc : Int) + off = (tgt : Int)) (kt : ¬ P → G E y d mc ms Q h0 tgt L st h cu su) (kf : P → G E y d mc ms Q h0 pc' L st h cu su) : G E y d mc ms Q h0 pc L (vI (bi P) :: st) h cu su :=
  g_if_eq hd hp ht (fun q => kt (bi_0.mp q)) (fun q => kf (Classical.byContradiction fun z => q (bi_0.mpr z)))
theorem g_ifB_ne {P : Prop} {off : Int} {tgt : Nat} (hd : decode y.2.1 pc = .ok (.ifCond .ne off, 3)) (hp : pc + 3 = pc') (ht : (pc : Int) + off = (tgt : Int)) (kt : P → G E y d mc ms Q h0 tgt L st h cu su) (kf : ¬ P → G E y d mc ms Q h0 pc' L st h cu su) : G E y d mc ms Q h0 pc L (vI (bi P) :: st) h cu su :=
  g_if_ne hd hp ht (fun q => kt (Classical.byContradiction fun z => q (bi_0.mpr z))) (fun q => kf (bi_0.mp q))
end GBB
noncomputable def cnt (p : Nat → Prop) : Nat → Nat
  | 0 => 0
  | n + 1 => cnt p n + @ite Nat (p n) (Classical.propDecidable (p n)) 1 0
theorem cnt_t {p : Nat → Prop} {n : Nat} (q : p n) : cnt p (n + 1) = cnt p n + 1 := by
  show cnt p n + _ = _
  rw [if_pos q]
theorem cnt_f {p : Nat → Prop} {n : Nat} (q : ¬ p n) : cnt p (n + 1) = cnt p n + 0 := by
  show cnt p n + _ = _
  rw [if_neg q]
theorem cnt_le (p : Nat → Prop) : ∀ n, cnt p n ≤ n
  | 0 => Nat.le_refl 0
  | n + 1 => by
    have ih := cnt_le p n
    by_cases q : p n
    · rw [cnt_t q]; omega
    · rw [cnt_f q]; omega
theorem cnt_congr {p q : Nat → Prop} : ∀ {n : Nat}, (∀ k, k < n → (p k ↔ q k)) → cnt p n = cnt q n
  | 0, _ => rfl
  | n + 1, hh => by
    have ih := cnt_congr (n := n) (fun k hk => hh k (by omega))
    by_cases z : p n
    · rw [cnt_t z, cnt_t ((hh n (by omega)).mp z), ih]
    · rw [cnt_f z, cnt_f (fun w => z ((hh n (by omega)).mpr w)), ih]
def sm (f : Nat → Int32) : Nat → Int32
  | 0 => 0
  | n + 1 => sm f n + f n
theorem sm_congr {f g : Nat → Int32} : ∀ {n : Nat}, (∀ k, k < n → f k = g k) → sm f n = sm g n
  | 0, _ => rfl
  | n + 1, hh => by
    unfold sm
    rw [sm_congr (fun k hk => hh k (by omega)), hh n (by omega)]
theorem sm_s (f : Nat → Int32) (n : Nat) : sm f (n + 1) = sm f n + f n := rfl
def orr (f : Nat → Int32) : Nat → Int32
  | 0 => 0
  | n + 1 => orr f n ||| f n
theorem orr_congr {f g : Nat → Int32} : ∀ {n : Nat}, (∀ k, k < n → f k = g k) → orr f n = orr g n
  | 0, _ => rfl
  | n + 1, hh => by
    unfold orr
    rw [orr_congr (fun k hk => hh k (by omega)), hh n (by omega)]
/-- the reference's counts -/
def nTl (m : St) : Nat := (m 1 1).toNatClampNeg
def nK (m : St) : Nat := (m 1 3).toNatClampNeg
def nT (m : St) : Nat := (m 1 4).toNatClampNeg
def nF (m : St) : Nat := (m 1 5).toNatClampNeg
def nR (m : St) : Nat := (m 1 59).toNatClampNeg
def nGf (m : St) : Nat := (m 1 60).toNatClampNeg
def nA (m : St) : Nat := (m 1 70).toNatClampNeg
def nW (m : St) : Nat := (m 1 2).toNatClampNeg
def nC (m : St) : Nat := (m 1 30).toNatClampNeg
def kd (m : St) (t : Nat) : Nat := (m 115 t).toNatClampNeg
/-- what always holds of the reference's numbers -/
def Wf (m : St) : Prop := (m 1 2 = nI (nW m) ∧ nW m ≤ 699) ∧ (m 1 30 = nI (nC m) ∧ nC m ≤ 16) ∧ (m 1 1 = nI (nTl m) ∧ nTl m ≤ 220) ∧ (m 1 3 = nI (nK m) ∧ nK m ≤ 8) ∧ (m 1 4 = nI (nT m) ∧ nT m ≤ 16) ∧ (m 1 5 = nI (nF m) ∧ nF m ≤ 10) ∧ (m 1 59 = nI (nR m) ∧ nR m ≤ 10) ∧ (m 1 60 = nI (nGf m) ∧ nGf m ≤ 20) ∧ (m 1 70 = nI (nA m) ∧ nA m ≤ 512) ∧ (∀ t, t < nT m → m 115 t = nI (kd m t) ∧ kd m t < nK m)
theorem Wf.w {m : St} (w : Wf m) : m 1 2 = nI (nW m) ∧ nW m ≤ 699 := w.1
theorem Wf.c {m : St} (w : Wf m) : m 1 30 = nI (nC m) ∧ nC m ≤ 16 := w.2.1
theorem Wf.tl {m : St} (w : Wf m) : m 1 1 = nI (nTl m) ∧ nTl m ≤ 220 := w.2.2.1
theorem Wf.k {m : St} (w : Wf m) : m 1 3 = nI (nK m) ∧ nK m ≤ 8 := w.2.2.2.1
theorem Wf.t {m : St} (w : Wf m) : m 1 4 = nI (nT m) ∧ nT m ≤ 16 := w.2.2.2.2.1
theorem Wf.f {m : St} (w : Wf m) : m 1 5 = nI (nF m) ∧ nF m ≤ 10 := w.2.2.2.2.2.1
theorem Wf.r {m : St} (w : Wf m) : m 1 59 = nI (nR m) ∧ nR m ≤ 10 := w.2.2.2.2.2.2.1
theorem Wf.g {m : St} (w : Wf m) : m 1 60 = nI (nGf m) ∧ nGf m ≤ 20 := w.2.2.2.2.2.2.2.1
theorem Wf.a {m : St} (w : Wf m) : m 1 70 = nI (nA m) ∧ nA m ≤ 512 := w.2.2.2.2.2.2.2.2.1
theorem Wf.kd {m : St} (w : Wf m) {t : Nat} (ht : t < nT m) : m 115 t = nI (kd m t) ∧ kd m t < nK m := w.2.2.2.2.2.2.2.2.2 t ht
/-- the script's numbers as places -/
def inN (x : Int32) (n : Nat) : Prop := 0 ≤ x ∧ x ≤ nI n - 1
theorem inN_iff {x : Int32} {n : Nat} (hn : n < 1000) : (0 ≤ x ∧ x ≤ nI n - nI 1) ↔ ∃ j : Nat, j < n ∧ x = nI j := by
  have e : (nI n - nI 1).toInt = (n : Int) - 1 := pk_sub_toInt (a := n) (b := 1) (by omega) (by omega)
  rw [Int32.le_iff_toInt_le, Int32.le_iff_toInt_le, e]
  constructor
  · rintro ⟨h1, h2⟩
    have h1' : (0 : Int) ≤ x.toInt := h1
    refine ⟨x.toInt.toNat, by omega, ?_⟩
    rw [← Int32.toInt_inj, nI_toInt (by omega)]
    omega
  · rintro ⟨j, hj, rfl⟩
    rw [nI_toInt (by omega)]
    exact ⟨by show (0 : Int) ≤ _; omega, by omega⟩
/-! the reference's own questions -/
noncomputable def wfr (m : St) (k : Nat) : Nat := cnt (fun f => ¬ m 186 (8 * f + k) = -1) (nF m)
noncomputable def hsT (m : St) (f : Int32) : Nat := cnt (fun t => m 118 t = 1 ∧ m 119 t = f) (nT m)
def lck (m : St) (t : Nat) : Int32 := sm (fun s => m 113 (6 * kd m t + s) - m 125 (6 * t + s)) 6
def isOfm (m : St) (r t : Nat) : Prop := m 161 r = m 111 (kd m t) ∧ m 162 r ≤ m 116 t ∧ m 116 t ≤ m 163 r
def isRec (m : St) (t : Nat) : Prop := ∃ r, r < nR m ∧ isOfm m r t
def termBars (m : St) (g f : Nat) : Prop := (m 168 g = 0 ∧ ¬ m 128 f = m 169 g) ∨ (m 168 g = 1 ∧ nI f = m 169 g) ∨ (m 168 g = 2 ∧ m 169 g < m 1 2) ∨ (m 168 g = 3 ∧ m 127 f < m 169 g)
def barred (m : St) (t f : Nat) : Prop := ∃ g, g < nGf m ∧ m 167 g = nI t ∧ termBars m g f
def bagW (m : St) (t : Nat) : Int32 := m 1 6 + sm (fun s => m 125 (6 * t + s) * m 114 (6 * kd m t + s)) 6
def mndT (m : St) (t : Nat) : Int32 := sm (fun s => m 191 s * (m 113 (6 * kd m t + s) - m 125 (6 * t + s))) 6
