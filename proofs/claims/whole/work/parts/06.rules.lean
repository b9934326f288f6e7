theorem okL_set {h : Hp} {L : List (Option V)} {i : Nat} {v : V} (hv : okV h v) (hL : okL h L) : okL h (L.set i (some v)) := by
  intro w hw
  rcases List.mem_or_eq_of_mem_set hw with q | q
  · exact hL w q
  · cases q; exact hv
section GR
variable {E : En} {y : Mt} {d mc ms : Nat} {Q : Option V → Hp → Prop} {h0 : Hp} {pc pc' : Nat} {L : List (Option V)} {st : List V} {h : Hp} {cu su : Nat}
theorem g_iconst {n : Int} {v : Int32} (hd : decode y.2.1 pc = .ok (.iconst n, 1)) (hp : pc + 1 = pc') (hv : Int32.ofInt n = v) (K : G E y d mc ms Q h0 pc' L (vI v :: st) h cu su) : G E y d mc ms Q h0 pc L (st) h cu su := by
  subst hp
  intro p e s m args below meth c adr0 adr H locs ls C hE hS hW ho hoL hl
  obtain ⟨hx, hb, hml, hr, hlk, hown, hnm, hts, hK, hN, hX, hbs, hok⟩ := id C
  exact lv_iconst hx hb hd hv (K p e s m args below meth c adr0 adr H locs ls C hE hS hW (okS_I ho) hoL hl)
theorem g_bipush {n : Int} {v : Int32} (hd : decode y.2.1 pc = .ok (.bipush n, 2)) (hp : pc + 2 = pc') (hv : (Int8.ofInt n).toInt32 = v) (K : G E y d mc ms Q h0 pc' L (vI v :: st) h cu su) : G E y d mc ms Q h0 pc L (st) h cu su := by
  subst hp
  intro p e s m args below meth c adr0 adr H locs ls C hE hS hW ho hoL hl
  obtain ⟨hx, hb, hml, hr, hlk, hown, hnm, hts, hK, hN, hX, hbs, hok⟩ := id C
  exact lv_bipush hx hb hd hv (K p e s m args below meth c adr0 adr H locs ls C hE hS hW (okS_I ho) hoL hl)
theorem g_sipush {n : Int} {v : Int32} (hd : decode y.2.1 pc = .ok (.sipush n, 3)) (hp : pc + 3 = pc') (hv : (Int16.ofInt n).toInt32 = v) (K : G E y d mc ms Q h0 pc' L (vI v :: st) h cu su) : G E y d mc ms Q h0 pc L (st) h cu su := by
  subst hp
  intro p e s m args below meth c adr0 adr H locs ls C hE hS hW ho hoL hl
  obtain ⟨hx, hb, hml, hr, hlk, hown, hnm, hts, hK, hN, hX, hbs, hok⟩ := id C
  exact lv_sipush hx hb hd hv (K p e s m args below meth c adr0 adr H locs ls C hE hS hW (okS_I ho) hoL hl)
theorem g_ldc {n : Nat} {v : Int32} (hd : decode y.2.1 pc = .ok (.ldc n, 2)) (hp : pc + 2 = pc') (hc : Cond.constant y.1.cls n v ∈ tw) (K : G E y d mc ms Q h0 pc' L (vI v :: st) h cu su) : G E y d mc ms Q h0 pc L (st) h cu su := by
  subst hp
  intro p e s m args below meth c adr0 adr H locs ls C hE hS hW ho hoL hl
  obtain ⟨hx, hb, hml, hr, hlk, hown, hnm, hts, hK, hN, hX, hbs, hok⟩ := id C
  exact lv_ldc hx hb hown (hts _ hc) hd (K p e s m args below meth c adr0 adr H locs ls C hE hS hW (okS_I ho) hoL hl)
theorem g_ldcw {n : Nat} {v : Int32} (hd : decode y.2.1 pc = .ok (.ldc_w n, 3)) (hp : pc + 3 = pc') (hc : Cond.constant y.1.cls n v ∈ tw) (K : G E y d mc ms Q h0 pc' L (vI v :: st) h cu su) : G E y d mc ms Q h0 pc L (st) h cu su := by
  subst hp
  intro p e s m args below meth c adr0 adr H locs ls C hE hS hW ho hoL hl
  obtain ⟨hx, hb, hml, hr, hlk, hown, hnm, hts, hK, hN, hX, hbs, hok⟩ := id C
  exact lv_ldcw hx hb hown (hts _ hc) hd (K p e s m args below meth c adr0 adr H locs ls C hE hS hW (okS_I ho) hoL hl)
theorem g_ldc2 {n : Nat} {v : Int64} (hd : decode y.2.1 pc = .ok (.ldc2_w n, 3)) (hp : pc + 3 = pc') (hc : Cond.constantLong y.1.cls n v ∈ tw) (K : G E y d mc ms Q h0 pc' L (vL v :: st) h cu su) : G E y d mc ms Q h0 pc L (st) h cu su := by
  subst hp
  intro p e s m args below meth c adr0 adr H locs ls C hE hS hW ho hoL hl
  obtain ⟨hx, hb, hml, hr, hlk, hown, hnm, hts, hK, hN, hX, hbs, hok⟩ := id C
  exact lv_ldc2 hx hb hown (hts _ hc) hd (K p e s m args below meth c adr0 adr H locs ls C hE hS hW (okS_cons (okV_L h _) ho) hoL hl)
theorem g_lconst {n : Fin 2} {v : Int64} (hd : decode y.2.1 pc = .ok (.lconst n, 1)) (hp : pc + 1 = pc') (hv : Int64.ofNat (n : Nat) = v) (K : G E y d mc ms Q h0 pc' L (vL v :: st) h cu su) : G E y d mc ms Q h0 pc L (st) h cu su := by
  subst hp
  intro p e s m args below meth c adr0 adr H locs ls C hE hS hW ho hoL hl
  obtain ⟨hx, hb, hml, hr, hlk, hown, hnm, hts, hK, hN, hX, hbs, hok⟩ := id C
  exact lv_lconst hx hb hd hv (K p e s m args below meth c adr0 adr H locs ls C hE hS hW (okS_cons (okV_L h _) ho) hoL hl)
theorem g_null  (hd : decode y.2.1 pc = .ok (.aconst_null, 1)) (hp : pc + 1 = pc')  (K : G E y d mc ms Q h0 pc' L (vN :: st) h cu su) : G E y d mc ms Q h0 pc L (st) h cu su := by
  subst hp
  intro p e s m args below meth c adr0 adr H locs ls C hE hS hW ho hoL hl
  obtain ⟨hx, hb, hml, hr, hlk, hown, hnm, hts, hK, hN, hX, hbs, hok⟩ := id C
  exact lv_null hx hb hd (K p e s m args below meth c adr0 adr H locs ls C hE hS hW (okS_cons (okV_N h) ho) hoL hl)
theorem g_iload_n {k : Fin 4} {x : Int32} (hd : decode y.2.1 pc = .ok (.iload_n k, 1)) (hp : pc + 1 = pc') (hL : L[(k : Nat)]? = some (some (vI x))) (K : G E y d mc ms Q h0 pc' L (vI x :: st) h cu su) : G E y d mc ms Q h0 pc L (st) h cu su := by
  subst hp
  intro p e s m args below meth c adr0 adr H locs ls C hE hS hW ho hoL hl
  obtain ⟨hx, hb, hml, hr, hlk, hown, hnm, hts, hK, hN, hX, hbs, hok⟩ := id C
  exact lv_iload_n hx hb hd rfl (hl.at hL) (K p e s m args below meth c adr0 adr H locs ls C hE hS hW (okS_I ho) hoL hl)
theorem g_lload_n {k : Fin 4} {x : Int64} (hd : decode y.2.1 pc = .ok (.lload_n k, 1)) (hp : pc + 1 = pc') (hL : L[(k : Nat)]? = some (some (vL x))) (K : G E y d mc ms Q h0 pc' L (vL x :: st) h cu su) : G E y d mc ms Q h0 pc L (st) h cu su := by
  subst hp
  intro p e s m args below meth c adr0 adr H locs ls C hE hS hW ho hoL hl
  obtain ⟨hx, hb, hml, hr, hlk, hown, hnm, hts, hK, hN, hX, hbs, hok⟩ := id C
  exact lv_lload_n hx hb hd rfl (hl.at hL) (K p e s m args below meth c adr0 adr H locs ls C hE hS hW (okS_cons (okV_L h _) ho) hoL hl)
theorem g_aload_n {k : Fin 4} {r : Option Ad} (hd : decode y.2.1 pc = .ok (.aload_n k, 1)) (hp : pc + 1 = pc') (hL : L[(k : Nat)]? = some (some (vO r))) (K : G E y d mc ms Q h0 pc' L (vO r :: st) h cu su) : G E y d mc ms Q h0 pc L st h cu su := by
  subst hp
  intro p e s m args below meth c adr0 adr H locs ls C hE hS hW ho hoL hl
  obtain ⟨hx, hb, hml, hr, hlk, hown, hnm, hts, hK, hN, hX, hbs, hok⟩ := id C
  have k2 := K p e s m args below meth c adr0 adr H locs ls C hE hS hW (okS_cons (hoL _ (List.mem_of_getElem? hL)) ho) hoL hl
  cases r with
  | none => exact lv_aload_nN hx hb hd rfl (hl.at hL) k2
  | some a => exact lv_aload_n hx hb hd rfl (hl.at hL) k2
theorem g_istore_n {k : Fin 4} {x : Int32} (hd : decode y.2.1 pc = .ok (.istore_n k, 1)) (hp : pc + 1 = pc') (hn : (k : Nat) < y.2.2.1) (hno : noL L = true) (K : G E y d mc ms Q h0 pc' (L.set (k : Nat) (some (vI x))) st h cu su) : G E y d mc ms Q h0 pc L (vI x :: st) h cu su := by
  subst hp
  intro p e s m args below meth c adr0 adr H locs ls C hE hS hW ho hoL hl
  obtain ⟨hx, hb, hml, hr, hlk, hown, hnm, hts, hK, hN, hX, hbs, hok⟩ := id C
  exact lv_istore_n hx hb hd rfl hl.has hn rfl (fun ls' hl' => K p e s m args below meth c adr0 adr H locs ls' C hE hS hW (okS_tl ho) (okL_set (okV_I h x) hoL) (LH.store hno hl'))
theorem g_astore_n {k : Fin 4} {r : Option Ad} (hd : decode y.2.1 pc = .ok (.astore_n k, 1)) (hp : pc + 1 = pc') (hn : (k : Nat) < y.2.2.1) (hno : noL L = true) (K : G E y d mc ms Q h0 pc' (L.set (k : Nat) (some (vO r))) st h cu su) : G E y d mc ms Q h0 pc L (vO r :: st) h cu su := by
  subst hp
  intro p e s m args below meth c adr0 adr H locs ls C hE hS hW ho hoL hl
  obtain ⟨hx, hb, hml, hr, hlk, hown, hnm, hts, hK, hN, hX, hbs, hok⟩ := id C
  have k2 := fun ls' hl' => K p e s m args below meth c adr0 adr H locs ls' C hE hS hW (okS_tl ho) (okL_set (okS_hd ho) hoL) (LH.store hno hl')
  cases r with
  | none => exact lv_astore_nN hx hb hd rfl hl.has hn rfl (fun ls' hl' => k2 ls' hl')
  | some a => exact lv_astore_n hx hb hd rfl hl.has hn rfl (fun ls' hl' => k2 ls' hl')
theorem g_iload {k : Nat} {x : Int32} (hd : decode y.2.1 pc = .ok (.iload k, 2)) (hp : pc + 2 = pc') (hL : L[k]? = some (some (vI x))) (K : G E y d mc ms Q h0 pc' L (vI x :: st) h cu su) : G E y d mc ms Q h0 pc L (st) h cu su := by
  subst hp
  intro p e s m args below meth c adr0 adr H locs ls C hE hS hW ho hoL hl
  obtain ⟨hx, hb, hml, hr, hlk, hown, hnm, hts, hK, hN, hX, hbs, hok⟩ := id C
  exact lv_iload hx hb hd (hl.at hL) (K p e s m args below meth c adr0 adr H locs ls C hE hS hW (okS_I ho) hoL hl)
theorem g_lload {k : Nat} {x : Int64} (hd : decode y.2.1 pc = .ok (.lload k, 2)) (hp : pc + 2 = pc') (hL : L[k]? = some (some (vL x))) (K : G E y d mc ms Q h0 pc' L (vL x :: st) h cu su) : G E y d mc ms Q h0 pc L (st) h cu su := by
  subst hp
  intro p e s m args below meth c adr0 adr H locs ls C hE hS hW ho hoL hl
  obtain ⟨hx, hb, hml, hr, hlk, hown, hnm, hts, hK, hN, hX, hbs, hok⟩ := id C
  exact lv_lload hx hb hd (hl.at hL) (K p e s m args below meth c adr0 adr H locs ls C hE hS hW (okS_cons (okV_L h _) ho) hoL hl)
theorem g_aload {k : Nat} {r : Option Ad} (hd : decode y.2.1 pc = .ok (.aload k, 2)) (hp : pc + 2 = pc') (hL : L[k]? = some (some (vO r))) (K : G E y d mc ms Q h0 pc' L (vO r :: st) h cu su) : G E y d mc ms Q h0 pc L st h cu su := by
  subst hp
  intro p e s m args below meth c adr0 adr H locs ls C hE hS hW ho hoL hl
  obtain ⟨hx, hb, hml, hr, hlk, hown, hnm, hts, hK, hN, hX, hbs, hok⟩ := id C
  have k2 := K p e s m args below meth c adr0 adr H locs ls C hE hS hW (okS_cons (hoL _ (List.mem_of_getElem? hL)) ho) hoL hl
  cases r with
  | none => exact lv_aloadN hx hb hd (hl.at hL) k2
  | some a => exact lv_aload hx hb hd (hl.at hL) k2
theorem g_istore {k : Nat} {x : Int32} (hd : decode y.2.1 pc = .ok (.istore k, 2)) (hp : pc + 2 = pc') (hn : k < y.2.2.1) (hno : noL L = true) (K : G E y d mc ms Q h0 pc' (L.set k (some (vI x))) st h cu su) : G E y d mc ms Q h0 pc L (vI x :: st) h cu su := by
  subst hp
  intro p e s m args below meth c adr0 adr H locs ls C hE hS hW ho hoL hl
  obtain ⟨hx, hb, hml, hr, hlk, hown, hnm, hts, hK, hN, hX, hbs, hok⟩ := id C
  exact lv_istore hx hb hd hl.has hn rfl (fun ls' hl' => K p e s m args below meth c adr0 adr H locs ls' C hE hS hW (okS_tl ho) (okL_set (okV_I h x) hoL) (LH.store hno hl'))
theorem g_astore {k : Nat} {r : Option Ad} (hd : decode y.2.1 pc = .ok (.astore k, 2)) (hp : pc + 2 = pc') (hn : k < y.2.2.1) (hno : noL L = true) (K : G E y d mc ms Q h0 pc' (L.set k (some (vO r))) st h cu su) : G E y d mc ms Q h0 pc L (vO r :: st) h cu su := by
  subst hp
  intro p e s m args below meth c adr0 adr H locs ls C hE hS hW ho hoL hl
  obtain ⟨hx, hb, hml, hr, hlk, hown, hnm, hts, hK, hN, hX, hbs, hok⟩ := id C
  have k2 := fun ls' hl' => K p e s m args below meth c adr0 adr H locs ls' C hE hS hW (okS_tl ho) (okL_set (okS_hd ho) hoL) (LH.store hno hl')
  cases r with
  | none => exact lv_astoreN hx hb hd hl.has hn rfl (fun ls' hl' => k2 ls' hl')
  | some a => exact lv_astore hx hb hd hl.has hn rfl (fun ls' hl' => k2 ls' hl')
theorem g_iinc {i : Nat} {n : Int} {x v : Int32} (hd : decode y.2.1 pc = .ok (.iinc i n, 3)) (hp : pc + 3 = pc') (hL : L[i]? = some (some (vI x))) (hv : x + Int32.ofInt n = v) (hn : i < y.2.2.1) (hno : noL L = true) (K : G E y d mc ms Q h0 pc' (L.set i (some (vI v))) st h cu su) : G E y d mc ms Q h0 pc L st h cu su := by
  subst hp
  intro p e s m args below meth c adr0 adr H locs ls C hE hS hW ho hoL hl
  obtain ⟨hx, hb, hml, hr, hlk, hown, hnm, hts, hK, hN, hX, hbs, hok⟩ := id C
  obtain ⟨k, hk⟩ := List.getElem?_of_mem (lo_mem (adr := adr) (L := L) (q := (i, .int x)).mpr ⟨vI x, hL, rfl⟩)
  exact lv_iinc hx hb hd hl.has hk hv hn rfl (fun ls' hl' => K p e s m args below meth c adr0 adr H locs ls' C hE hS hW ho (okL_set (okV_I h v) hoL) (LH.store (w := vI v) hno hl'))
theorem g_iadd {x z : Int32} (hd : decode y.2.1 pc = .ok (.iadd, 1)) (hp : pc + 1 = pc')  (K : G E y d mc ms Q h0 pc' L (vI (x + z) :: st) h cu su) : G E y d mc ms Q h0 pc L (vI z :: vI x :: st) h cu su := by
  subst hp
  intro p e s m args below meth c adr0 adr H locs ls C hE hS hW ho hoL hl
  obtain ⟨hx, hb, hml, hr, hlk, hown, hnm, hts, hK, hN, hX, hbs, hok⟩ := id C
  exact lv_iadd hx hb hd (K p e s m args below meth c adr0 adr H locs ls C hE hS hW (okS_I (okS_t2 ho)) hoL hl)
theorem g_isub {x z : Int32} (hd : decode y.2.1 pc = .ok (.isub, 1)) (hp : pc + 1 = pc')  (K : G E y d mc ms Q h0 pc' L (vI (x - z) :: st) h cu su) : G E y d mc ms Q h0 pc L (vI z :: vI x :: st) h cu su := by
  subst hp
  intro p e s m args below meth c adr0 adr H locs ls C hE hS hW ho hoL hl
  obtain ⟨hx, hb, hml, hr, hlk, hown, hnm, hts, hK, hN, hX, hbs, hok⟩ := id C
  exact lv_isub hx hb hd (K p e s m args below meth c adr0 adr H locs ls C hE hS hW (okS_I (okS_t2 ho)) hoL hl)
theorem g_imul {x z : Int32} (hd : decode y.2.1 pc = .ok (.imul, 1)) (hp : pc + 1 = pc')  (K : G E y d mc ms Q h0 pc' L (vI (x * z) :: st) h cu su) : G E y d mc ms Q h0 pc L (vI z :: vI x :: st) h cu su := by
  subst hp
  intro p e s m args below meth c adr0 adr H locs ls C hE hS hW ho hoL hl
  obtain ⟨hx, hb, hml, hr, hlk, hown, hnm, hts, hK, hN, hX, hbs, hok⟩ := id C
  exact lv_imul hx hb hd (K p e s m args below meth c adr0 adr H locs ls C hE hS hW (okS_I (okS_t2 ho)) hoL hl)
theorem g_iand {x z : Int32} (hd : decode y.2.1 pc = .ok (.iand, 1)) (hp : pc + 1 = pc')  (K : G E y d mc ms Q h0 pc' L (vI (x &&& z) :: st) h cu su) : G E y d mc ms Q h0 pc L (vI z :: vI x :: st) h cu su := by
  subst hp
  intro p e s m args below meth c adr0 adr H locs ls C hE hS hW ho hoL hl
  obtain ⟨hx, hb, hml, hr, hlk, hown, hnm, hts, hK, hN, hX, hbs, hok⟩ := id C
  exact lv_iand hx hb hd (K p e s m args below meth c adr0 adr H locs ls C hE hS hW (okS_I (okS_t2 ho)) hoL hl)
theorem g_ior {x z : Int32} (hd : decode y.2.1 pc = .ok (.ior, 1)) (hp : pc + 1 = pc')  (K : G E y d mc ms Q h0 pc' L (vI (x ||| z) :: st) h cu su) : G E y d mc ms Q h0 pc L (vI z :: vI x :: st) h cu su := by
  subst hp
  intro p e s m args below meth c adr0 adr H locs ls C hE hS hW ho hoL hl
  obtain ⟨hx, hb, hml, hr, hlk, hown, hnm, hts, hK, hN, hX, hbs, hok⟩ := id C
  exact lv_ior hx hb hd (K p e s m args below meth c adr0 adr H locs ls C hE hS hW (okS_I (okS_t2 ho)) hoL hl)
theorem g_ixor {x z : Int32} (hd : decode y.2.1 pc = .ok (.ixor, 1)) (hp : pc + 1 = pc')  (K : G E y d mc ms Q h0 pc' L (vI (x ^^^ z) :: st) h cu su) : G E y d mc ms Q h0 pc L (vI z :: vI x :: st) h cu su := by
  subst hp
  intro p e s m args below meth c adr0 adr H locs ls C hE hS hW ho hoL hl
  obtain ⟨hx, hb, hml, hr, hlk, hown, hnm, hts, hK, hN, hX, hbs, hok⟩ := id C
  exact lv_ixor hx hb hd (K p e s m args below meth c adr0 adr H locs ls C hE hS hW (okS_I (okS_t2 ho)) hoL hl)
theorem g_ishl {x z : Int32} (hd : decode y.2.1 pc = .ok (.ishl, 1)) (hp : pc + 1 = pc')  (K : G E y d mc ms Q h0 pc' L (vI (x <<< (z &&& 31)) :: st) h cu su) : G E y d mc ms Q h0 pc L (vI z :: vI x :: st) h cu su := by
  subst hp
  intro p e s m args below meth c adr0 adr H locs ls C hE hS hW ho hoL hl
  obtain ⟨hx, hb, hml, hr, hlk, hown, hnm, hts, hK, hN, hX, hbs, hok⟩ := id C
  exact lv_ishl hx hb hd (K p e s m args below meth c adr0 adr H locs ls C hE hS hW (okS_I (okS_t2 ho)) hoL hl)
theorem g_ishr {x z : Int32} (hd : decode y.2.1 pc = .ok (.ishr, 1)) (hp : pc + 1 = pc')  (K : G E y d mc ms Q h0 pc' L (vI (x >>> (z &&& 31)) :: st) h cu su) : G E y d mc ms Q h0 pc L (vI z :: vI x :: st) h cu su := by
  subst hp
  intro p e s m args below meth c adr0 adr H locs ls C hE hS hW ho hoL hl
  obtain ⟨hx, hb, hml, hr, hlk, hown, hnm, hts, hK, hN, hX, hbs, hok⟩ := id C
  exact lv_ishr hx hb hd (K p e s m args below meth c adr0 adr H locs ls C hE hS hW (okS_I (okS_t2 ho)) hoL hl)
theorem g_iushr {x z v : Int32} (hd : decode y.2.1 pc = .ok (.iushr, 1)) (hp : pc + 1 = pc') (hv : (x.toUInt32 >>> (z.toUInt32 &&& Int32.toUInt32 31)).toInt32 = v) (K : G E y d mc ms Q h0 pc' L (vI v :: st) h cu su) : G E y d mc ms Q h0 pc L (vI z :: vI x :: st) h cu su := by
  subst hp
  intro p e s m args below meth c adr0 adr H locs ls C hE hS hW ho hoL hl
  obtain ⟨hx, hb, hml, hr, hlk, hown, hnm, hts, hK, hN, hX, hbs, hok⟩ := id C
  exact lv_iushr hx hb hd hv (K p e s m args below meth c adr0 adr H locs ls C hE hS hW (okS_I (okS_t2 ho)) hoL hl)
theorem g_idiv {x z : Int32} (hd : decode y.2.1 pc = .ok (.idiv, 1)) (hp : pc + 1 = pc') (hz : ¬ z = 0) (K : G E y d mc ms Q h0 pc' L (vI (x / z) :: st) h cu su) : G E y d mc ms Q h0 pc L (vI z :: vI x :: st) h cu su := by
  subst hp
  intro p e s m args below meth c adr0 adr H locs ls C hE hS hW ho hoL hl
  obtain ⟨hx, hb, hml, hr, hlk, hown, hnm, hts, hK, hN, hX, hbs, hok⟩ := id C
  exact lv_idiv hx hb hd hz (K p e s m args below meth c adr0 adr H locs ls C hE hS hW (okS_I (okS_t2 ho)) hoL hl)
theorem g_irem {x z : Int32} (hd : decode y.2.1 pc = .ok (.irem, 1)) (hp : pc + 1 = pc') (hz : ¬ z = 0) (K : G E y d mc ms Q h0 pc' L (vI (x - x / z * z) :: st) h cu su) : G E y d mc ms Q h0 pc L (vI z :: vI x :: st) h cu su := by
  subst hp
  intro p e s m args below meth c adr0 adr H locs ls C hE hS hW ho hoL hl
  obtain ⟨hx, hb, hml, hr, hlk, hown, hnm, hts, hK, hN, hX, hbs, hok⟩ := id C
  exact lv_irem hx hb hd hz (K p e s m args below meth c adr0 adr H locs ls C hE hS hW (okS_I (okS_t2 ho)) hoL hl)
theorem g_i2l {x : Int32} (hd : decode y.2.1 pc = .ok (.i2l, 1)) (hp : pc + 1 = pc')  (K : G E y d mc ms Q h0 pc' L (vL x.toInt64 :: st) h cu su) : G E y d mc ms Q h0 pc L (vI x :: st) h cu su := by
  subst hp
  intro p e s m args below meth c adr0 adr H locs ls C hE hS hW ho hoL hl
  obtain ⟨hx, hb, hml, hr, hlk, hown, hnm, hts, hK, hN, hX, hbs, hok⟩ := id C
  exact lv_i2l hx hb hd rfl (K p e s m args below meth c adr0 adr H locs ls C hE hS hW (okS_cons (okV_L h _) (okS_tl ho)) hoL hl)
theorem g_i2b {x : Int32} (hd : decode y.2.1 pc = .ok (.i2b, 1)) (hp : pc + 1 = pc')  (K : G E y d mc ms Q h0 pc' L (vI x.toInt8.toInt32 :: st) h cu su) : G E y d mc ms Q h0 pc L (vI x :: st) h cu su := by
  subst hp
  intro p e s m args below meth c adr0 adr H locs ls C hE hS hW ho hoL hl
  obtain ⟨hx, hb, hml, hr, hlk, hown, hnm, hts, hK, hN, hX, hbs, hok⟩ := id C
  exact lv_i2b hx hb hd rfl (K p e s m args below meth c adr0 adr H locs ls C hE hS hW (okS_I (okS_tl ho)) hoL hl)
theorem g_i2c {x : Int32} (hd : decode y.2.1 pc = .ok (.i2c, 1)) (hp : pc + 1 = pc')  (K : G E y d mc ms Q h0 pc' L (vI (x.toUInt32 % 65536).toInt32 :: st) h cu su) : G E y d mc ms Q h0 pc L (vI x :: st) h cu su := by
  subst hp
  intro p e s m args below meth c adr0 adr H locs ls C hE hS hW ho hoL hl
  obtain ⟨hx, hb, hml, hr, hlk, hown, hnm, hts, hK, hN, hX, hbs, hok⟩ := id C
  exact lv_i2c hx hb hd rfl (K p e s m args below meth c adr0 adr H locs ls C hE hS hW (okS_I (okS_tl ho)) hoL hl)
theorem g_lcmp {x z : Int64} (hd : decode y.2.1 pc = .ok (.lcmp, 1)) (hp : pc + 1 = pc')  (K : G E y d mc ms Q h0 pc' L (vI (lg_cmp x z) :: st) h cu su) : G E y d mc ms Q h0 pc L (vL z :: vL x :: st) h cu su := by
  subst hp
  intro p e s m args below meth c adr0 adr H locs ls C hE hS hW ho hoL hl
  obtain ⟨hx, hb, hml, hr, hlk, hown, hnm, hts, hK, hN, hX, hbs, hok⟩ := id C
  exact W.lcmp hx hb hd (K p e s m args below meth c adr0 adr H locs ls C hE hS hW (okS_I (okS_t2 ho)) hoL hl)
theorem g_dup {v : V} (hd : decode y.2.1 pc = .ok (.dup, 1)) (hp : pc + 1 = pc') (hv : isL v = false) (K : G E y d mc ms Q h0 pc' L (v :: v :: st) h cu su) : G E y d mc ms Q h0 pc L (v :: st) h cu su := by
  subst hp
  intro p e s m args below meth c adr0 adr H locs ls C hE hS hW ho hoL hl
  obtain ⟨hx, hb, hml, hr, hlk, hown, hnm, hts, hK, hN, hX, hbs, hok⟩ := id C
  exact lv_dup hx hb hd (tv_cat hv) (K p e s m args below meth c adr0 adr H locs ls C hE hS hW (okS_cons (okS_hd ho) ho) hoL hl)
theorem g_pop {v : V} (hd : decode y.2.1 pc = .ok (.pop, 1)) (hp : pc + 1 = pc') (hv : isL v = false) (K : G E y d mc ms Q h0 pc' L (st) h cu su) : G E y d mc ms Q h0 pc L (v :: st) h cu su := by
  subst hp
  intro p e s m args below meth c adr0 adr H locs ls C hE hS hW ho hoL hl
  obtain ⟨hx, hb, hml, hr, hlk, hown, hnm, hts, hK, hN, hX, hbs, hok⟩ := id C
  exact lv_pop hx hb hd (tv_cat hv) (K p e s m args below meth c adr0 adr H locs ls C hE hS hW (okS_tl ho) hoL hl)
theorem g_dup_x1 {v w : V} (hd : decode y.2.1 pc = .ok (.dup_x1, 1)) (hp : pc + 1 = pc') (hv : isL v = false) (hw : isL w = false) (K : G E y d mc ms Q h0 pc' L (v :: w :: v :: st) h cu su) : G E y d mc ms Q h0 pc L (v :: w :: st) h cu su := by
  subst hp
  intro p e s m args below meth c adr0 adr H locs ls C hE hS hW ho hoL hl
  obtain ⟨hx, hb, hml, hr, hlk, hown, hnm, hts, hK, hN, hX, hbs, hok⟩ := id C
  exact lv_dup_x1 hx hb hd (tv_cat hv) (tv_cat hw) (K p e s m args below meth c adr0 adr H locs ls C hE hS hW (okS_cons (okS_hd ho) (okS_cons (okS_hd (okS_tl ho)) (okS_cons (okS_hd ho) (okS_t2 ho)))) hoL hl)
theorem g_dup2 {v w : V} (hd : decode y.2.1 pc = .ok (.dup2, 1)) (hp : pc + 1 = pc') (hv : isL v = false) (hw : isL w = false) (K : G E y d mc ms Q h0 pc' L (v :: w :: v :: w :: st) h cu su) : G E y d mc ms Q h0 pc L (v :: w :: st) h cu su := by
  subst hp
  intro p e s m args below meth c adr0 adr H locs ls C hE hS hW ho hoL hl
  obtain ⟨hx, hb, hml, hr, hlk, hown, hnm, hts, hK, hN, hX, hbs, hok⟩ := id C
  exact lv_dup2_11 hx hb hd (tv_cat hv) (tv_cat hw) (K p e s m args below meth c adr0 adr H locs ls C hE hS hW (okS_cons (okS_hd ho) (okS_cons (okS_hd (okS_tl ho)) ho)) hoL hl)
theorem g_if_eq {x : Int32} {off : Int} {tgt : Nat} (hd : decode y.2.1 pc = .ok (.ifCond .eq off, 3)) (hp : pc + 3 = pc') (ht : (pc : Int) + off = (tgt : Int)) (kt : x = 0 → G E y d mc ms Q h0 tgt L st h cu su) (kf : ¬ x = 0 → G E y d mc ms Q h0 pc' L st h cu su) : G E y d mc ms Q h0 pc L (vI x :: st) h cu su := by
  subst hp
  intro p e s m args below meth c adr0 adr H locs ls C hE hS hW ho hoL hl
  obtain ⟨hx, hb, hml, hr, hlk, hown, hnm, hts, hK, hN, hX, hbs, hok⟩ := id C
  exact lv_if_eq hx hb hd ht (fun q => kt q p e s m args below meth c adr0 adr H locs ls C hE hS hW (okS_tl ho) hoL hl) (fun q => kf q p e s m args below meth c adr0 adr H locs ls C hE hS hW (okS_tl ho) hoL hl)
theorem g_icmp_eq {x z : Int32} {off : Int} {tgt : Nat} (hd : decode y.2.1 pc = .ok (.if_icmp .eq off, 3)) (hp : pc + 3 = pc') (ht : (pc : Int) + off = (tgt : Int)) (kt : x = z → G E y d mc ms Q h0 tgt L st h cu su) (kf : ¬ x = z → G E y d mc ms Q h0 pc' L st h cu su) : G E y d mc ms Q h0 pc L (vI z :: vI x :: st) h cu su := by
  subst hp
  intro p e s m args below meth c adr0 adr H locs ls C hE hS hW ho hoL hl
  obtain ⟨hx, hb, hml, hr, hlk, hown, hnm, hts, hK, hN, hX, hbs, hok⟩ := id C
  exact lv_icmp_eq hx hb hd ht (fun q => kt q p e s m args below meth c adr0 adr H locs ls C hE hS hW (okS_t2 ho) hoL hl) (fun q => kf q p e s m args below meth c adr0 adr H locs ls C hE hS hW (okS_t2 ho) hoL hl)
theorem g_if_ne {x : Int32} {off : Int} {tgt : Nat} (hd : decode y.2.1 pc = .ok (.ifCond .ne off, 3)) (hp : pc + 3 = pc') (ht : (pc : Int) + off = (tgt : Int)) (kt : ¬ x = 0 → G E y d mc ms Q h0 tgt L st h cu su) (kf : x = 0 → G E y d mc ms Q h0 pc' L st h cu su) : G E y d mc ms Q h0 pc L (vI x :: st) h cu su := by
  subst hp
  intro p e s m args below meth c adr0 adr H locs ls C hE hS hW ho hoL hl
  obtain ⟨hx, hb, hml, hr, hlk, hown, hnm, hts, hK, hN, hX, hbs, hok⟩ := id C
  exact lv_if_ne hx hb hd ht (fun q => kt q p e s m args below meth c adr0 adr H locs ls C hE hS hW (okS_tl ho) hoL hl) (fun q => kf q p e s m args below meth c adr0 adr H locs ls C hE hS hW (okS_tl ho) hoL hl)
theorem g_icmp_ne {x z : Int32} {off : Int} {tgt : Nat} (hd : decode y.2.1 pc = .ok (.if_icmp .ne off, 3)) (hp : pc + 3 = pc') (ht : (pc : Int) + off = (tgt : Int)) (kt : ¬ x = z → G E y d mc ms Q h0 tgt L st h cu su) (kf : x = z → G E y d mc ms Q h0 pc' L st h cu su) : G E y d mc ms Q h0 pc L (vI z :: vI x :: st) h cu su := by
  subst hp
  intro p e s m args below meth c adr0 adr H locs ls C hE hS hW ho hoL hl
  obtain ⟨hx, hb, hml, hr, hlk, hown, hnm, hts, hK, hN, hX, hbs, hok⟩ := id C
  exact lv_icmp_ne hx hb hd ht (fun q => kt q p e s m args below meth c adr0 adr H locs ls C hE hS hW (okS_t2 ho) hoL hl) (fun q => kf q p e s m args below meth c adr0 adr H locs ls C hE hS hW (okS_t2 ho) hoL hl)
theorem g_if_lt {x : Int32} {off : Int} {tgt : Nat} (hd : decode y.2.1 pc = .ok (.ifCond .lt off, 3)) (hp : pc + 3 = pc') (ht : (pc : Int) + off = (tgt : Int)) (kt : x < 0 → G E y d mc ms Q h0 tgt L st h cu su) (kf : ¬ x < 0 → G E y d mc ms Q h0 pc' L st h cu su) : G E y d mc ms Q h0 pc L (vI x :: st) h cu su := by
  subst hp
  intro p e s m args below meth c adr0 adr H locs ls C hE hS hW ho hoL hl
  obtain ⟨hx, hb, hml, hr, hlk, hown, hnm, hts, hK, hN, hX, hbs, hok⟩ := id C
  exact lv_if_lt hx hb hd ht (fun q => kt q p e s m args below meth c adr0 adr H locs ls C hE hS hW (okS_tl ho) hoL hl) (fun q => kf q p e s m args below meth c adr0 adr H locs ls C hE hS hW (okS_tl ho) hoL hl)
theorem g_icmp_lt {x z : Int32} {off : Int} {tgt : Nat} (hd : decode y.2.1 pc = .ok (.if_icmp .lt off, 3)) (hp : pc + 3 = pc') (ht : (pc : Int) + off = (tgt : Int)) (kt : x < z → G E y d mc ms Q h0 tgt L st h cu su) (kf : ¬ x < z → G E y d mc ms Q h0 pc' L st h cu su) : G E y d mc ms Q h0 pc L (vI z :: vI x :: st) h cu su := by
  subst hp
  intro p e s m args below meth c adr0 adr H locs ls C hE hS hW ho hoL hl
  obtain ⟨hx, hb, hml, hr, hlk, hown, hnm, hts, hK, hN, hX, hbs, hok⟩ := id C
  exact lv_icmp_lt hx hb hd ht (fun q => kt q p e s m args below meth c adr0 adr H locs ls C hE hS hW (okS_t2 ho) hoL hl) (fun q => kf q p e s m args below meth c adr0 adr H locs ls C hE hS hW (okS_t2 ho) hoL hl)
theorem g_if_ge {x : Int32} {off : Int} {tgt : Nat} (hd : decode y.2.1 pc = .ok (.ifCond .ge off, 3)) (hp : pc + 3 = pc') (ht : (pc : Int) + off = (tgt : Int)) (kt : 0 ≤ x → G E y d mc ms Q h0 tgt L st h cu su) (kf : ¬ 0 ≤ x → G E y d mc ms Q h0 pc' L st h cu su) : G E y d mc ms Q h0 pc L (vI x :: st) h cu su := by
  subst hp
  intro p e s m args below meth c adr0 adr H locs ls C hE hS hW ho hoL hl
  obtain ⟨hx, hb, hml, hr, hlk, hown, hnm, hts, hK, hN, hX, hbs, hok⟩ := id C
  exact lv_if_ge hx hb hd ht (fun q => kt q p e s m args below meth c adr0 adr H locs ls C hE hS hW (okS_tl ho) hoL hl) (fun q => kf q p e s m args below meth c adr0 adr H locs ls C hE hS hW (okS_tl ho) hoL hl)
theorem g_icmp_ge {x z : Int32} {off : Int} {tgt : Nat} (hd : decode y.2.1 pc = .ok (.if_icmp .ge off, 3)) (hp : pc + 3 = pc') (ht : (pc : Int) + off = (tgt : Int)) (kt : z ≤ x → G E y d mc ms Q h0 tgt L st h cu su) (kf : ¬ z ≤ x → G E y d mc ms Q h0 pc' L st h cu su) : G E y d mc ms Q h0 pc L (vI z :: vI x :: st) h cu su := by
  subst hp
  intro p e s m args below meth c adr0 adr H locs ls C hE hS hW ho hoL hl
  obtain ⟨hx, hb, hml, hr, hlk, hown, hnm, hts, hK, hN, hX, hbs, hok⟩ := id C
  exact lv_icmp_ge hx hb hd ht (fun q => kt q p e s m args below meth c adr0 adr H locs ls C hE hS hW (okS_t2 ho) hoL hl) (fun q => kf q p e s m args below meth c adr0 adr H locs ls C hE hS hW (okS_t2 ho) hoL hl)
theorem g_if_gt {x : Int32} {off : Int} {tgt : Nat} (hd : decode y.2.1 pc = .ok (.ifCond .gt off, 3)) (hp : pc + 3 = pc') (ht : (pc : Int) + off = (tgt : Int)) (kt : 0 < x → G E y d mc ms Q h0 tgt L st h cu su) (kf : ¬ 0 < x → G E y d mc ms Q h0 pc' L st h cu su) : G E y d mc ms Q h0 pc L (vI x :: st) h cu su := by
  subst hp
  intro p e s m args below meth c adr0 adr H locs ls C hE hS hW ho hoL hl
  obtain ⟨hx, hb, hml, hr, hlk, hown, hnm, hts, hK, hN, hX, hbs, hok⟩ := id C
  exact lv_if_gt hx hb hd ht (fun q => kt q p e s m args below meth c adr0 adr H locs ls C hE hS hW (okS_tl ho) hoL hl) (fun q => kf q p e s m args below meth c adr0 adr H locs ls C hE hS hW (okS_tl ho) hoL hl)
theorem g_icmp_gt {x z : Int32} {off : Int} {tgt : Nat} (hd : decode y.2.1 pc = .ok (.if_icmp .gt off, 3)) (hp : pc + 3 = pc') (ht : (pc : Int) + off = (tgt : Int)) (kt : z < x → G E y d mc ms Q h0 tgt L st h cu su) (kf : ¬ z < x → G E y d mc ms Q h0 pc' L st h cu su) : G E y d mc ms Q h0 pc L (vI z :: vI x :: st) h cu su := by
  subst hp
  intro p e s m args below meth c adr0 adr H locs ls C hE hS hW ho hoL hl
  obtain ⟨hx, hb, hml, hr, hlk, hown, hnm, hts, hK, hN, hX, hbs, hok⟩ := id C
  exact lv_icmp_gt hx hb hd ht (fun q => kt q p e s m args below meth c adr0 adr H locs ls C hE hS hW (okS_t2 ho) hoL hl) (fun q => kf q p e s m args below meth c adr0 adr H locs ls C hE hS hW (okS_t2 ho) hoL hl)
theorem g_if_le {x : Int32} {off : Int} {tgt : Nat} (hd : decode y.2.1 pc = .ok (.ifCond .le off, 3)) (hp : pc + 3 = pc') (ht : (pc : Int) + off = (tgt : Int)) (kt : x ≤ 0 → G E y d mc ms Q h0 tgt L st h cu su) (kf : ¬ x ≤ 0 → G E y d mc ms Q h0 pc' L st h cu su) : G E y d mc ms Q h0 pc L (vI x :: st) h cu su := by
  subst hp
  intro p e s m args below meth c adr0 adr H locs ls C hE hS hW ho hoL hl
  obtain ⟨hx, hb, hml, hr, hlk, hown, hnm, hts, hK, hN, hX, hbs, hok⟩ := id C
  exact lv_if_le hx hb hd ht (fun q => kt q p e s m args below meth c adr0 adr H locs ls C hE hS hW (okS_tl ho) hoL hl) (fun q => kf q p e s m args below meth c adr0 adr H locs ls C hE hS hW (okS_tl ho) hoL hl)
theorem g_icmp_le {x z : Int32} {off : Int} {tgt : Nat} (hd : decode y.2.1 pc = .ok (.if_icmp .le off, 3)) (hp : pc + 3 = pc') (ht : (pc : Int) + off = (tgt : Int)) (kt : x ≤ z → G E y d mc ms Q h0 tgt L st h cu su) (kf : ¬ x ≤ z → G E y d mc ms Q h0 pc' L st h cu su) : G E y d mc ms Q h0 pc L (vI z :: vI x :: st) h cu su := by
  subst hp
  intro p e s m args below meth c adr0 adr H locs ls C hE hS hW ho hoL hl
  obtain ⟨hx, hb, hml, hr, hlk, hown, hnm, hts, hK, hN, hX, hbs, hok⟩ := id C
  exact lv_icmp_le hx hb hd ht (fun q => kt q p e s m args below meth c adr0 adr H locs ls C hE hS hW (okS_t2 ho) hoL hl) (fun q => kf q p e s m args below meth c adr0 adr H locs ls C hE hS hW (okS_t2 ho) hoL hl)
theorem g_goto {off : Int} {tgt : Nat} (hd : decode y.2.1 pc = .ok (.goto off, 3)) (ht : (pc : Int) + off = (tgt : Int)) (K : G E y d mc ms Q h0 tgt L st h cu su) : G E y d mc ms Q h0 pc L st h cu su := by
  intro p e s m args below meth c adr0 adr H locs ls C hE hS hW ho hoL hl
  obtain ⟨hx, hb, hml, hr, hlk, hown, hnm, hts, hK, hN, hX, hbs, hok⟩ := id C
  exact lv_goto hx hb hd ht (K p e s m args below meth c adr0 adr H locs ls C hE hS hW ho hoL hl)
theorem g_ifnull {a : Ad} {off : Int} (hd : decode y.2.1 pc = .ok (.ifnull off, 3)) (hp : pc + 3 = pc') (K : G E y d mc ms Q h0 pc' L st h cu su) : G E y d mc ms Q h0 pc L (vR a :: st) h cu su := by
  subst hp
  intro p e s m args below meth c adr0 adr H locs ls C hE hS hW ho hoL hl
  obtain ⟨hx, hb, hml, hr, hlk, hown, hnm, hts, hK, hN, hX, hbs, hok⟩ := id C
  exact lv_ifnull hx hb hd (K p e s m args below meth c adr0 adr H locs ls C hE hS hW (okS_tl ho) hoL hl)
theorem g_ifnullN {off : Int} {tgt : Nat} (hd : decode y.2.1 pc = .ok (.ifnull off, 3)) (ht : (pc : Int) + off = (tgt : Int)) (K : G E y d mc ms Q h0 tgt L st h cu su) : G E y d mc ms Q h0 pc L (vN :: st) h cu su := by
  intro p e s m args below meth c adr0 adr H locs ls C hE hS hW ho hoL hl
  obtain ⟨hx, hb, hml, hr, hlk, hown, hnm, hts, hK, hN, hX, hbs, hok⟩ := id C
  exact lv_ifnullN hx hb hd ht (K p e s m args below meth c adr0 adr H locs ls C hE hS hW (okS_tl ho) hoL hl)
theorem g_ifnonnull {a : Ad} {off : Int} {tgt : Nat} (hd : decode y.2.1 pc = .ok (.ifnonnull off, 3)) (ht : (pc : Int) + off = (tgt : Int)) (K : G E y d mc ms Q h0 tgt L st h cu su) : G E y d mc ms Q h0 pc L (vR a :: st) h cu su := by
  intro p e s m args below meth c adr0 adr H locs ls C hE hS hW ho hoL hl
  obtain ⟨hx, hb, hml, hr, hlk, hown, hnm, hts, hK, hN, hX, hbs, hok⟩ := id C
  exact lv_ifnonnull hx hb hd ht (K p e s m args below meth c adr0 adr H locs ls C hE hS hW (okS_tl ho) hoL hl)
theorem g_ifnonnullN {off : Int} (hd : decode y.2.1 pc = .ok (.ifnonnull off, 3)) (hp : pc + 3 = pc') (K : G E y d mc ms Q h0 pc' L st h cu su) : G E y d mc ms Q h0 pc L (vN :: st) h cu su := by
  subst hp
  intro p e s m args below meth c adr0 adr H locs ls C hE hS hW ho hoL hl
  obtain ⟨hx, hb, hml, hr, hlk, hown, hnm, hts, hK, hN, hX, hbs, hok⟩ := id C
  exact lv_ifnonnullN hx hb hd (K p e s m args below meth c adr0 adr H locs ls C hE hS hW (okS_tl ho) hoL hl)
theorem g_tabOut {dflt lw hi : Int} {offs : Array Int} {len : Nat} {x : Int32} {tgt : Nat} (hd : decode y.2.1 pc = .ok (.tableswitch dflt lw hi offs, len)) (hq : x.toInt < lw ∨ hi < x.toInt) (ht : (pc : Int) + dflt = (tgt : Int)) (K : G E y d mc ms Q h0 tgt L st h cu su) : G E y d mc ms Q h0 pc L (vI x :: st) h cu su := by
  intro p e s m args below meth c adr0 adr H locs ls C hE hS hW ho hoL hl
  obtain ⟨hx, hb, hml, hr, hlk, hown, hnm, hts, hK, hN, hX, hbs, hok⟩ := id C
  exact lv_tableOut hx hb hd hq ht (K p e s m args below meth c adr0 adr H locs ls C hE hS hW (okS_tl ho) hoL hl)
theorem g_tabIn {dflt lw hi off : Int} {offs : Array Int} {len : Nat} {x : Int32} {tgt : Nat} (hd : decode y.2.1 pc = .ok (.tableswitch dflt lw hi offs, len)) (h1 : ¬ x.toInt < lw) (h2 : ¬ hi < x.toInt) (hq : offs[(x.toInt - lw).toNat]? = some off) (ht : (pc : Int) + off = (tgt : Int)) (K : G E y d mc ms Q h0 tgt L st h cu su) : G E y d mc ms Q h0 pc L (vI x :: st) h cu su := by
  intro p e s m args below meth c adr0 adr H locs ls C hE hS hW ho hoL hl
  obtain ⟨hx, hb, hml, hr, hlk, hown, hnm, hts, hK, hN, hX, hbs, hok⟩ := id C
  exact lv_tableIn hx hb hd h1 h2 hq ht (K p e s m args below meth c adr0 adr H locs ls C hE hS hW (okS_tl ho) hoL hl)
theorem g_lookup {dflt off : Int} {ps : Array (Int × Int)} {len : Nat} {x : Int32} {tgt : Nat} (hd : decode y.2.1 pc = .ok (.lookupswitch dflt ps, len)) (h1 : (ps.toList.zip (ps.toList.drop 1)).all (fun (a, next) => a.1 < next.1) = true) (hq : Op.lookupswitch.offset ps.toList dflt x.toInt = off) (ht : (pc : Int) + off = (tgt : Int)) (K : G E y d mc ms Q h0 tgt L st h cu su) : G E y d mc ms Q h0 pc L (vI x :: st) h cu su := by
  intro p e s m args below meth c adr0 adr H locs ls C hE hS hW ho hoL hl
  obtain ⟨hx, hb, hml, hr, hlk, hown, hnm, hts, hK, hN, hX, hbs, hok⟩ := id C
  exact lv_lookup hx hb hd h1 hq ht (K p e s m args below meth c adr0 adr H locs ls C hE hS hW (okS_tl ho) hoL hl)
theorem g_ret_ok {adr0 : Ad → Nat} {s : State} {H : Heap} {locs : List Loc} {adr : Ad → Nat} {args : Array Value} {v : V} (hE : Lat h0 adr0 h adr) (hS : Sm E adr h H) (hW : va_S (eA E) s.heap H locs) (hv : okV h v) (hq : Q (some v) h) : ∀ t : State, t.heap = H → s.WarmedH t.vm → QM E adr0 h0 Q args s (.returned (some (tv adr v))) t := fun t ht _ => ⟨⟨some v, adr, h, rfl, hq, fun w e => by cases e; exact hv, hE, by rw [ht]; exact hS⟩, hW.F ht⟩
theorem g_iret {x : Int32} (hd : decode y.2.1 pc = .ok (.ireturn, 1)) (hy : y.2.2.2 = some .int) (hc : cu ≤ mc) (hs : su ≤ ms) (hq : Q (some (vI x)) h) : G E y d mc ms Q h0 pc L [vI x] h cu su := by
  intro p e s m args below meth c adr0 adr H locs ls C hE hS hW ho hoL hl
  obtain ⟨hx, hb, hml, hr, hlk, hown, hnm, hts, hK, hN, hX, hbs, hok⟩ := id C
  rw [hy] at hr
  refine W.widen hc hs ?_
  exact W.iret hx hb hr (g_ret_ok hE hS hW (okV_I h x) hq) hW.2.2 hd
theorem g_zret {x : Int32} {ty : FieldType} (hd : decode y.2.1 pc = .ok (.ireturn, 1)) (hy : y.2.2.2 = some ty) (hn : narrow ty (.int x) = .int x) (hc : cu ≤ mc) (hs : su ≤ ms) (hq : Q (some (vI x)) h) : G E y d mc ms Q h0 pc L [vI x] h cu su := by
  intro p e s m args below meth c adr0 adr H locs ls C hE hS hW ho hoL hl
  obtain ⟨hx, hb, hml, hr, hlk, hown, hnm, hts, hK, hN, hX, hbs, hok⟩ := id C
  rw [hy] at hr
  refine W.widen hc hs ?_
  exact W.zret hx hb hr hn (g_ret_ok hE hS hW (okV_I h x) hq) hW.2.2 hd
theorem g_vret (hd : decode y.2.1 pc = .ok (.return_, 1)) (hy : y.2.2.2 = none) (hc : cu ≤ mc) (hs : su ≤ ms) (hq : Q none h) : G E y d mc ms Q h0 pc L [] h cu su := by
  intro p e s m args below meth c adr0 adr H locs ls C hE hS hW ho hoL hl
  obtain ⟨hx, hb, hml, hr, hlk, hown, hnm, hts, hK, hN, hX, hbs, hok⟩ := id C
  rw [hy] at hr
  refine W.widen hc hs ?_
  exact W.vret hx hb hr (fun t ht _ => ⟨⟨none, adr, h, rfl, hq, (fun w z => by cases z), hE, (by rw [ht]; exact hS)⟩, hW.F ht⟩) hW.2.2 hd
theorem g_aret {r : Option Ad} {rt : FieldType} (hd : decode y.2.1 pc = .ok (.areturn, 1)) (hy : y.2.2.2 = some rt) (hrt : (∃ n, rt = .object n) ∨ ∃ t, rt = .array t) (hc : cu ≤ mc) (hs : su ≤ ms) (hq : Q (some (vO r)) h) : G E y d mc ms Q h0 pc L [vO r] h cu su := by
  intro p e s m args below meth c adr0 adr H locs ls C hE hS hW ho hoL hl
  obtain ⟨hx, hb, hml, hr, hlk, hown, hnm, hts, hK, hN, hX, hbs, hok⟩ := id C
  rw [hy] at hr
  refine W.widen hc hs ?_
  exact W.aret hx hb hr hrt (by cases r with | none => exact Or.inl rfl | some a => exact Or.inr ⟨_, rfl⟩) (g_ret_ok hE hS hW (okS_hd ho) hq) hW.2.2 hd
end GR
