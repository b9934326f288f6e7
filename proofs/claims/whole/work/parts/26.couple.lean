/-! THE COUPLING: what the class's cells hold, by the reference's numbers m -/
/-- the array of list i when it has n elements -/
def dN (i n : Nat) : Ad := if n = 0 then (91, 0) else if n ≤ 10 then (61, i) else if n ≤ 15 then (62, i) else (63, i)
/-- list i has n elements, the cells (s, 0), (s, 1) .. -/
def Ls (h : Hp) (i n s : Nat) : Prop := h.1 (13, i) 2 = nI n ∧ h.2.1 (13, i) 1 = some (dN i n) ∧ (∀ j, j < n → h.2.1 (dN i n) j = some (s, j)) ∧ (∀ j, n ≤ j → h.2.2 (s, j) = false) ∧ (n = 0 → h.2.2 (61, i) = false) ∧ (n ≤ 10 → h.2.2 (62, i) = false) ∧ (n ≤ 15 → h.2.2 (63, i) = false)
def C1 (m : St) (h : Hp) : Prop := h.1 TH 0 = m 1 2 ∧ h.1 TH 1 = m 1 6 ∧ h.1 TH 2 = m 1 7 ∧ h.1 TH 3 = m 1 60 ∧ h.1 TH 4 = m 1 1
def C2 (m : St) (h : Hp) : Prop := ∀ j, j < 220 → h.1 (20, 0) j = m 100 j &&& nI 255
def C3 (m : St) (h : Hp) : Prop := ∀ j, j < 6 → h.1 (21, 0) j = m 191 j
def C4 (m : St) (h : Hp) : Prop := ∀ j, j < 53 → h.1 (22, 0) j = m 187 j
/-- kinds -/
def C5 (m : St) (h : Hp) : Prop := Ls h 0 (nK m) 2 ∧ (∀ k, k < nK m → (h.1 (2, k) 0 = nI k ∧ h.1 (2, k) 1 = m 108 k ∧ h.1 (2, k) 2 = m 109 k ∧ h.1 (2, k) 3 = m 110 k ∧ h.1 (2, k) 4 = m 111 k ∧ h.1 (2, k) 5 = m 112 k) ∧ (∀ j, j < 6 → h.1 (24, k) j = m 113 (6 * k + j)) ∧ (∀ j, j < 6 → h.1 (25, k) j = m 114 (6 * k + j))) ∧ ∀ k, nK m ≤ k → h.2.2 (24, k) = false ∧ h.2.2 (25, k) = false
/-- toys -/
def C6 (m : St) (h : Hp) : Prop := Ls h 1 (nT m) 3 ∧ (∀ t, t < nT m → h.2.1 (3, t) 1 = some (2, kd m t) ∧ (h.1 (3, t) 0 = nI t ∧ h.1 (3, t) 2 = m 116 t ∧ h.1 (3, t) 7 = m 118 t ∧ h.1 (3, t) 8 = m 119 t ∧ h.1 (3, t) 9 = m 120 t ∧ h.1 (3, t) 10 = m 121 t ∧ (m 118 t = 0 → h.1 (3, t) 11 = m 123 t) ∧ h.1 (3, t) 12 = m 117 t ∧ h.1 (3, t) 13 = m 122 t ∧ h.1 (3, t) 14 = m 124 t) ∧ ∀ j, j < 6 → h.1 (26, t) j = m 125 (6 * t + j)) ∧ ∀ t, nT m ≤ t → h.2.2 (26, t) = false ∧ h.2.2 (27, t) = false ∧ h.2.2 (28, t) = false
/-- the terms of gifts: each toy has those that were given for it -/
def C7 (m : St) (h : Hp) : Prop := ∀ t, t < nT m → ∃ c : Nat, h.1 (3, t) 6 = nI c ∧ c ≤ nGf m ∧ ∀ P : Int32 → Int32 → Prop, (∃ i, i < c ∧ P (h.1 (27, t) i) (h.1 (28, t) i)) ↔ ∃ g, g < nGf m ∧ m 167 g = nI t ∧ P (m 168 g) (m 169 g)
/-- families -/
def C8 (m : St) (h : Hp) : Prop := Ls h 2 (nF m) 4 ∧ (∀ f, f < nF m → (h.1 (4, f) 0 = nI f ∧ h.1 (4, f) 1 = m 126 f ∧ h.1 (4, f) 2 = m 127 f ∧ h.1 (4, f) 3 = m 128 f ∧ h.1 (4, f) 5 = m 129 f) ∧ ∀ k, k < 8 → h.1 (29, f) k = m 186 (8 * f + k)) ∧ ∀ f, nF m ≤ f → h.2.2 (29, f) = false
/-- recalls -/
def C9 (m : St) (h : Hp) : Prop := Ls h 3 (nR m) 5 ∧ (∀ r, r < nR m → (h.1 (5, r) 0 = m 161 r ∧ h.1 (5, r) 1 = m 162 r ∧ h.1 (5, r) 2 = m 163 r ∧ h.1 (5, r) 3 = m 164 r ∧ h.1 (5, r) 5 = m 165 r) ∧ ∀ f, f < 10 → h.1 (30, r) f = m 166 (10 * r + f)) ∧ ∀ r, nR m ≤ r → h.2.2 (30, r) = false
/-- the diary -/
def C10 (m : St) (h : Hp) : Prop := h.1 (8, 0) 4 = m 1 70 ∧ h.1 (8, 0) 5 = m 1 71 ∧ ∀ i, i < nA m → h.1 (31, 0) i = m 172 i ∧ h.1 (32, 0) i = m 174 i ∧ h.1 (33, 0) i = m 175 i ∧ h.1 (34, 0) i = m 173 i
/-- fines forgiven, and what came after -/
def C11 (m : St) (h : Hp) : Prop := (∀ f, f < nF m → h.1 (4, f) 6 = lastF m f (nA m)) ∧ ∀ w, w < 4 → h.1 (23, 0) w = nI (fgv m w)
theorem wI_j {h : Hp} {a b : Ad} {i j : Nat} {x : Int32} (hj : i ≠ j) : (wI h a j x).1 b i = h.1 b i := by rw [wI_at, if_neg (fun z => hj z.2)]
theorem lastF_congr {m m' : St} {f : Nat} (e1 : m' 176 = m 176) (e2 : m' 177 = m 177) (e3 : m' 178 = m 178) : ∀ n, lastF m' f n = lastF m f n
  | 0 => rfl
  | n + 1 => by
    unfold lastF
    rw [lastF_congr e1 e2 e3 n, e1, e2, e3]
theorem fgv_congr {m m' : St} (e1 : m' 176 = m 176) (e2 : m' 177 = m 177) (e3 : m' 178 = m 178) (e4 : m' 179 = m 179) (e5 : nF m' = nF m) (e6 : nA m' = nA m) (w : Nat) : fgv m' w = fgv m w := by
  have q : ∀ f, fgP m' w f = fgP m w f := fun f => by
    funext i
    unfold fgP
    rw [lastF_congr e1 e2 e3 i, e1, e3, e4]
  unfold fgv
  rw [e5, e6]
  congr 1
  funext f
  rw [q f]
theorem C11.same {m m' : St} {h h' : Hp} (c : C11 m h) (e1 : m' 176 = m 176) (e2 : m' 177 = m 177) (e3 : m' 178 = m 178) (e4 : m' 179 = m 179) (e5 : nF m' = nF m) (e6 : nA m' = nA m) (e7 : ∀ f, h'.1 (4, f) 6 = h.1 (4, f) 6) (e8 : h'.1 (23, 0) = h.1 (23, 0)) : C11 m' h' :=
  ⟨fun f hf => by
    rw [e7, e6, lastF_congr e1 e2 e3]
    exact c.1 f (e5 ▸ hf), fun w hw => by
    rw [e8, fgv_congr e1 e2 e3 e4 e5 e6]
    exact c.2 w hw⟩
/-- the rules -/
def C12 (m : St) (h : Hp) : Prop := ∃ R : Rm, WR m R ∧ CR m h R
/-- what the constructors laid and nothing writes -/
def C13 (h : Hp) : Prop := h.1 (46, 0) 6 = 0 ∧ h.1 (47, 0) 6 = 1 ∧ h.1 (48, 0) 6 = 0 ∧ h.1 (58, 0) 0 = 0 ∧ ∀ k, k < 8 → h.2.1 (50, 0) k = some (51, k)
def Al (h : Hp) : Prop := h.2.2 (91, 0) = true ∧ h.2.2 (92, 0) = true ∧ h.2.2 (93, 0) = true ∧ h.2.2 (94, 0) = true
def Cp (m : St) (h : Hp) : Prop := Shp h.2 ∧ Al h ∧ C1 m h ∧ C2 m h ∧ C3 m h ∧ C4 m h ∧ C5 m h ∧ C6 m h ∧ C7 m h ∧ C8 m h ∧ C9 m h ∧ C10 m h ∧ C11 m h ∧ C12 m h ∧ C13 h
theorem Cp.s {m : St} {h : Hp} (c : Cp m h) : Shp h.2 := c.1
theorem Cp.e {m : St} {h : Hp} (c : Cp m h) : Al h := c.2.1
theorem Cp.c1 {m : St} {h : Hp} (c : Cp m h) : C1 m h := c.2.2.1
theorem Cp.c2 {m : St} {h : Hp} (c : Cp m h) : C2 m h := c.2.2.2.1
theorem Cp.c3 {m : St} {h : Hp} (c : Cp m h) : C3 m h := c.2.2.2.2.1
theorem Cp.c4 {m : St} {h : Hp} (c : Cp m h) : C4 m h := c.2.2.2.2.2.1
theorem Cp.c5 {m : St} {h : Hp} (c : Cp m h) : C5 m h := c.2.2.2.2.2.2.1
theorem Cp.c6 {m : St} {h : Hp} (c : Cp m h) : C6 m h := c.2.2.2.2.2.2.2.1
theorem Cp.c7 {m : St} {h : Hp} (c : Cp m h) : C7 m h := c.2.2.2.2.2.2.2.2.1
theorem Cp.c8 {m : St} {h : Hp} (c : Cp m h) : C8 m h := c.2.2.2.2.2.2.2.2.2.1
theorem Cp.c9 {m : St} {h : Hp} (c : Cp m h) : C9 m h := c.2.2.2.2.2.2.2.2.2.2.1
theorem Cp.c10 {m : St} {h : Hp} (c : Cp m h) : C10 m h := c.2.2.2.2.2.2.2.2.2.2.2.1
theorem Cp.c11 {m : St} {h : Hp} (c : Cp m h) : C11 m h := c.2.2.2.2.2.2.2.2.2.2.2.2.1
theorem Cp.c12 {m : St} {h : Hp} (c : Cp m h) : C12 m h := c.2.2.2.2.2.2.2.2.2.2.2.2.2.1
theorem Cp.c13 {m : St} {h : Hp} (c : Cp m h) : C13 h := c.2.2.2.2.2.2.2.2.2.2.2.2.2.2
theorem dN_mt {i n : Nat} (h0 : 0 < n) (h1 : n ≤ 16) : ∃ N, mt (dN i n) = (23, N) ∧ n ≤ N ∧ N < 1000 := by
  unfold dN
  rw [if_neg (by omega)]
  split
  · exact ⟨10, rfl, by omega, by decide⟩
  · split
    · exact ⟨15, rfl, by omega, by decide⟩
    · exact ⟨22, rfl, by omega, by decide⟩
/-- size() and get(j) of a list that is so -/
theorem ls_size {E : En} (hok : EOK E) {h : Hp} {i n s : Nat} (hl : Ls h i n s) : Fn E m_Jx4a65c_size_8abf5 0 [vR (13, i)] h (vI (nI n)) := by
  have q := li_size hok (h := h) (i := i)
  rw [hl.1] at q
  exact q
theorem ls_get {E : En} (hok : EOK E) {h : Hp} {i n s j : Nat} (hl : Ls h i n s) (hn : n ≤ 16) (hj : j < n) : Fn E m_Jx4a65c_get_915e3 2 [vR (13, i), vI (nI j)] h (vR (s, j)) := by
  obtain ⟨N, e1, e2, e3⟩ := dN_mt (i := i) (n := n) (by omega) hn
  exact li_get hok hl.2.1 e1 e3 e2 hl.1 hj (hl.2.2.1 j hj)
/-- the class changed its own cells alone -/
def Ck (h h' : Hp) : Prop := mo h' = mo h
