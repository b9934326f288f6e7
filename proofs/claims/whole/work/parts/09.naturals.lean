/-! the same rules where the numbers are known as naturals; booleans; the fixed references -/
def Shp (r : (Ad → Nat → Option Ad) × (Ad → Bool)) : Prop := ∀ s j i b, sh s j i = some b → r.2 (s, i) = true → r.1 (s, i) j = some b
section GN
variable {E : En} {y : Mt} {d mc ms : Nat} {Q : Option V → Hp → Prop} {h0 : Hp} {pc pc' : Nat} {L : List (Option V)} {st : List V} {h : Hp} {cu su : Nat}
theorem G.live {a : Ad} {R : List V} (K : h.2.2 a = true → G E y d mc ms Q h0 pc L (vR a :: R) h cu su) : G E y d mc ms Q h0 pc L (vR a :: R) h cu su := by
  intro p e s m args below meth c adr0 adr H locs ls CC hE hS hW ho hoL hl
  exact K (okS_hd ho a rfl) p e s m args below meth c adr0 adr H locs ls CC hE hS hW ho hoL hl
theorem G.drop (i : Nat) (K : G E y d mc ms Q h0 pc (L.set i none) st h cu su) : G E y d mc ms Q h0 pc L st h cu su := by
  intro p e s m args below meth c adr0 adr H locs ls CC hE hS hW ho hoL hl
  have key : ∀ (j : Nat) (v : V), (L.set i none)[j]? = some (some v) → L[j]? = some (some v) := by
    intro j v hj
    by_cases q : j = i
    · subst q
      have hl : j < (L.set j none).length := (List.getElem?_eq_some_iff.mp hj).1
      rw [List.length_set] at hl
      rw [List.getElem?_set_self hl] at hj
      cases hj
    · rw [List.getElem?_set_ne (Ne.symm q)] at hj
      exact hj
  refine K p e s m args below meth c adr0 adr H locs ls CC hE hS hW ho (fun v hv => ?_) ⟨hl.1, hl.2.1, fun j v hj => hl.2.2 j v (key j v hj)⟩
  obtain ⟨j, hj⟩ := List.getElem?_of_mem hv
  exact hoL v (List.mem_of_getElem? (key j v hj))
theorem g_getS {s i : Nat} {n k ci N : Nat} {C : String} {T : u_T} {b : Ad} (hd : decode y.2.1 pc = .ok (.getfield n, 3)) (hp : pc + 3 = pc') (hm : mt (s, i) = (ci, N)) (hck : CK ci C T N) (hk : k < N) (hlk : Cond.fieldLink y.1.cls n (T k).1 (T k).2.1 (T k).2.2.1 ∈ tw) (hR : isR ci k = true) (hs : Shp h.2) (hsh : sh s k i = some b) (K : G E y d mc ms Q h0 pc' L (vR b :: st) h cu su) : G E y d mc ms Q h0 pc L (vR (s, i) :: st) h cu su :=
  G.live fun ha => g_getR hd hp hm hck hk hlk hR (hs s k i b hsh ha) K
theorem g_getIv {a : Ad} {n k ci N : Nat} {C : String} {T : u_T} {v : Int32} (hd : decode y.2.1 pc = .ok (.getfield n, 3)) (hp : pc + 3 = pc') (hm : mt a = (ci, N)) (hck : CK ci C T N) (hk : k < N) (hlk : Cond.fieldLink y.1.cls n (T k).1 (T k).2.1 (T k).2.2.1 ∈ tw) (hR : isR ci k = false) (hv : h.1 a k = v) (K : G E y d mc ms Q h0 pc' L (vI v :: st) h cu su) : G E y d mc ms Q h0 pc L (vR a :: st) h cu su := g_getI hd hp hm hck hk hlk hR (by rw [hv]; exact K)
theorem g_iconstN {n : Nat} (hd : decode y.2.1 pc = .ok (.iconst n, 1)) (hp : pc + 1 = pc') (K : G E y d mc ms Q h0 pc' L (vI (nI n) :: st) h cu su) : G E y d mc ms Q h0 pc L st h cu su := g_iconst hd hp rfl K
theorem g_bipushN {n : Nat} (hd : decode y.2.1 pc = .ok (.bipush n, 2)) (hp : pc + 2 = pc') (hv : (Int8.ofInt (n : Int)).toInt32 = nI n) (K : G E y d mc ms Q h0 pc' L (vI (nI n) :: st) h cu su) : G E y d mc ms Q h0 pc L st h cu su := g_bipush hd hp hv K
theorem g_sipushN {n : Nat} (hd : decode y.2.1 pc = .ok (.sipush n, 3)) (hp : pc + 3 = pc') (hv : (Int16.ofInt (n : Int)).toInt32 = nI n) (K : G E y d mc ms Q h0 pc' L (vI (nI n) :: st) h cu su) : G E y d mc ms Q h0 pc L st h cu su := g_sipush hd hp hv K
theorem g_iaddN {a b : Nat} (hd : decode y.2.1 pc = .ok (.iadd, 1)) (hp : pc + 1 = pc') (K : G E y d mc ms Q h0 pc' L (vI (nI (a + b)) :: st) h cu su) : G E y d mc ms Q h0 pc L (vI (nI b) :: vI (nI a) :: st) h cu su := g_iadd hd hp (by rw [nI_add]; exact K)
theorem g_imulN {a b : Nat} (hd : decode y.2.1 pc = .ok (.imul, 1)) (hp : pc + 1 = pc') (K : G E y d mc ms Q h0 pc' L (vI (nI (a * b)) :: st) h cu su) : G E y d mc ms Q h0 pc L (vI (nI b) :: vI (nI a) :: st) h cu su := g_imul hd hp (by rw [pk_mul]; exact K)
theorem g_isubN {a b : Nat} (hd : decode y.2.1 pc = .ok (.isub, 1)) (hp : pc + 1 = pc') (hq : b ≤ a) (K : G E y d mc ms Q h0 pc' L (vI (nI (a - b)) :: st) h cu su) : G E y d mc ms Q h0 pc L (vI (nI b) :: vI (nI a) :: st) h cu su := g_isub hd hp (by rw [pk_sub hq]; exact K)
theorem g_idivN {a b : Nat} (hd : decode y.2.1 pc = .ok (.idiv, 1)) (hp : pc + 1 = pc') (ha : a < 2 ^ 31) (hb : 0 < b) (hb2 : b < 2 ^ 31) (K : G E y d mc ms Q h0 pc' L (vI (nI (a / b)) :: st) h cu su) : G E y d mc ms Q h0 pc L (vI (nI b) :: vI (nI a) :: st) h cu su := g_idiv hd hp (nI_ne0 hb hb2) (by rw [pk_div ha hb hb2]; exact K)
theorem g_iremN {a b : Nat} (hd : decode y.2.1 pc = .ok (.irem, 1)) (hp : pc + 1 = pc') (ha : a < 2 ^ 31) (hb : 0 < b) (hb2 : b < 2 ^ 31) (K : G E y d mc ms Q h0 pc' L (vI (nI (a % b)) :: st) h cu su) : G E y d mc ms Q h0 pc L (vI (nI b) :: vI (nI a) :: st) h cu su := g_irem hd hp (nI_ne0 hb hb2) (by rw [pk_rem ha hb hb2]; exact K)
theorem g_iincN {i k a : Nat} (hd : decode y.2.1 pc = .ok (.iinc i k, 3)) (hp : pc + 3 = pc') (hL : L[i]? = some (some (vI (nI a)))) (hn : i < y.2.2.1) (hno : noL L = true) (K : G E y d mc ms Q h0 pc' (L.set i (some (vI (nI (a + k))))) st h cu su) : G E y d mc ms Q h0 pc L st h cu su := g_iinc hd hp hL (by rw [← nI_add]; rfl) hn hno K
theorem g_ialdN {a : Ad} {N j : Nat} {v : Int32} (hd : decode y.2.1 pc = .ok (.iaload, 1)) (hp : pc + 1 = pc') (hm : mt a = (20, N)) (hN : N < 1000) (hj : j < N) (hv : h.1 a j = v) (K : G E y d mc ms Q h0 pc' L (vI v :: st) h cu su) : G E y d mc ms Q h0 pc L (vI (nI j) :: vR a :: st) h cu su := g_iald hd hp hm (vp_in_nI hj (by omega)) (by rw [nI_clamp (by omega), hv]; exact K)
theorem g_zaldN {a : Ad} {N j : Nat} {v : Int32} (hd : decode y.2.1 pc = .ok (.baload, 1)) (hp : pc + 1 = pc') (hm : mt a = (21, N)) (hN : N < 1000) (hj : j < N) (hv : h.1 a j = v) (K : G E y d mc ms Q h0 pc' L (vI v :: st) h cu su) : G E y d mc ms Q h0 pc L (vI (nI j) :: vR a :: st) h cu su := g_zald hd hp hm (vp_in_nI hj (by omega)) (by rw [nI_clamp (by omega), hv]; exact K)
theorem g_baldN {a : Ad} {N j : Nat} {v : Int32} (hd : decode y.2.1 pc = .ok (.baload, 1)) (hp : pc + 1 = pc') (hm : mt a = (22, N)) (hN : N < 1000) (hj : j < N) (hv : h.1 a j = v) (K : G E y d mc ms Q h0 pc' L (vI v :: st) h cu su) : G E y d mc ms Q h0 pc L (vI (nI j) :: vR a :: st) h cu su := g_bald hd hp hm (vp_in_nI hj (by omega)) (by rw [nI_clamp (by omega), hv]; exact K)
theorem g_iastN {a : Ad} {N j : Nat} {x : Int32} (hd : decode y.2.1 pc = .ok (.iastore, 1)) (hp : pc + 1 = pc') (hm : mt a = (20, N)) (hN : N < 1000) (hj : j < N) (K : G E y d mc ms Q h0 pc' L st (wI h a j x) cu su) : G E y d mc ms Q h0 pc L (vI x :: vI (nI j) :: vR a :: st) h cu su := g_iast hd hp hm (vp_in_nI hj (by omega)) (by rw [nI_clamp (by omega)]; exact K)
theorem g_zastN {a : Ad} {N j : Nat} {x : Int32} (hd : decode y.2.1 pc = .ok (.bastore, 1)) (hp : pc + 1 = pc') (hm : mt a = (21, N)) (hN : N < 1000) (hj : j < N) (K : G E y d mc ms Q h0 pc' L st (wI h a j (vp_nar .boolean x)) cu su) : G E y d mc ms Q h0 pc L (vI x :: vI (nI j) :: vR a :: st) h cu su := g_zast hd hp hm (vp_in_nI hj (by omega)) (by rw [nI_clamp (by omega)]; exact K)
theorem g_bastN {a : Ad} {N j : Nat} {x : Int32} (hd : decode y.2.1 pc = .ok (.bastore, 1)) (hp : pc + 1 = pc') (hm : mt a = (22, N)) (hN : N < 1000) (hj : j < N) (K : G E y d mc ms Q h0 pc' L st (wI h a j (vp_nar .byte x)) cu su) : G E y d mc ms Q h0 pc L (vI x :: vI (nI j) :: vR a :: st) h cu su := g_bast hd hp hm (vp_in_nI hj (by omega)) (by rw [nI_clamp (by omega)]; exact K)
theorem bI {P : Prop} [Decidable P] : (if P then (1 : Int32) else 0) = 0 ↔ ¬ P := by by_cases q : P <;> simp [q]
theorem g_ifb_eq {P : Prop} [Decidable P] {off : Int} {tgt : Nat} (hd : decode y.2.1 pc = .ok (.ifCond .eq off, 3)) (hp : pc + 3 = pc') (ht : (pc : Int) + off = (tgt : Int)) (kt : ¬ P → G E y d mc ms Q h0 tgt L st h cu su) (kf : P → G E y d mc ms Q h0 pc' L st h cu su) : G E y d mc ms Q h0 pc L (vI (if P then 1 else 0) :: st) h cu su :=
  g_if_eq hd hp ht (fun q => kt (bI.mp q)) (fun q => kf (Classical.byContradiction fun z => q (bI.mpr z)))
theorem g_ifb_ne {P : Prop} [Decidable P] {off : Int} {tgt : Nat} (hd : decode y.2.1 pc = .ok (.ifCond .ne off, 3)) (hp : pc + 3 = pc') (ht : (pc : Int) + off = (tgt : Int)) (kt : P → G E y d mc ms Q h0 tgt L st h cu su) (kf : ¬ P → G E y d mc ms Q h0 pc' L st h cu su) : G E y d mc ms Q h0 pc L (vI (if P then 1 else 0) :: st) h cu su :=
  g_if_ne hd hp ht (fun q => kt (Classical.byContradiction fun z => q (bI.mpr z))) (fun q => kf (bI.mp q))
theorem nb {P : Prop} [Decidable P] : narrow .boolean (.int (if P then 1 else 0)) = .int (if P then 1 else 0) := by by_cases q : P <;> simp [q] <;> rfl
/-- a method that only answers -/
abbrev Fn (E : En) (y : Mt) (d : Nat) (as : List V) (h : Hp) (v : V) : Prop := Call E y d 0 0 as h (fun r h' => r = some v ∧ h = h')
/-- a method that answers and leaves this heap -/
abbrev Fm (E : En) (y : Mt) (d : Nat) (as : List V) (h : Hp) (v : Option V) (h1 : Hp) : Prop := Call E y d 0 0 as h (fun r h' => r = v ∧ h1 = h')
end GN
