/-! words and rules for the class and the library's list -/
theorem wd_sf : Cond.sameField "java/util/ArrayList" "java/util/AbstractList" "modCount" "I" ∈ tw := tm_1 57 rfl rfl
theorem wd_int : Cond.arrayClass .int ∈ tw := tm_1 65 rfl rfl
theorem wd_byte : Cond.arrayClass .byte ∈ tw := tm_4 107 rfl rfl
theorem wd_bool : Cond.arrayClass .boolean ∈ tw := tm_7 168 rfl rfl
theorem oi_i : Cond.instanceMethod Lib.objectInit ∈ tw := tm_1 34 rfl rfl
theorem oi_c : Cond.code Lib.objectInit ⟨#[0xb1]⟩ 1 none ∈ tw := tm_1 35 rfl rfl
section GX
variable {E : En} {y : Mt} {d mc ms : Nat} {Q : Option V → Hp → Prop} {h0 : Hp} {pc pc' : Nat} {L : List (Option V)} {st : List V} {h : Hp} {cu su : Nat}
theorem g_newI {N : Nat} (a : Ad) (ha : h.2.2 a = false) (hd : decode y.2.1 pc = .ok (.newarray .int, 2)) (hp : pc + 2 = pc') (hm : mt a = (20, N)) (hN : N < 1000) (hc : cu + 1 ≤ mc) (hs : su + N ≤ ms) (K : G E y d mc ms Q h0 pc' L (vR a :: st) (nH h a) (cu + 1) (su + N)) : G E y d mc ms Q h0 pc L (vI (nI N) :: st) h cu su :=
  g_newa (t0 := 0) (ty := .int) a ha hd hp hm (by decide) rfl (fun _ => rfl) (tw_in wd_int) rfl hN (by show N * 4 ≤ 536870912; omega) hc hs wd_int K
theorem g_newB {N : Nat} (a : Ad) (ha : h.2.2 a = false) (hd : decode y.2.1 pc = .ok (.newarray .byte, 2)) (hp : pc + 2 = pc') (hm : mt a = (22, N)) (hN : N < 1000) (hc : cu + 1 ≤ mc) (hs : su + N ≤ ms) (K : G E y d mc ms Q h0 pc' L (vR a :: st) (nH h a) (cu + 1) (su + N)) : G E y d mc ms Q h0 pc L (vI (nI N) :: st) h cu su :=
  g_newa (t0 := 2) (ty := .byte) a ha hd hp hm (by decide) rfl (fun _ => rfl) (tw_in wd_byte) rfl hN (by show N * 1 ≤ 536870912; omega) hc hs wd_byte K
theorem g_newZ {N : Nat} (a : Ad) (ha : h.2.2 a = false) (hd : decode y.2.1 pc = .ok (.newarray .boolean, 2)) (hp : pc + 2 = pc') (hm : mt a = (21, N)) (hN : N < 1000) (hc : cu + 1 ≤ mc) (hs : su + N ≤ ms) (K : G E y d mc ms Q h0 pc' L (vR a :: st) (nH h a) (cu + 1) (su + N)) : G E y d mc ms Q h0 pc L (vI (nI N) :: st) h cu su :=
  g_newa (t0 := 1) (ty := .boolean) a ha hd hp hm (by decide) rfl (fun _ => rfl) (tw_in wd_bool) rfl hN (by show N * 1 ≤ 536870912; omega) hc hs wd_bool K
/-- ArrayList's modCount, that is AbstractList's -/
theorem g_getM {i n : Nat} (hd : decode y.2.1 pc = .ok (.getfield n, 3)) (hp : pc + 3 = pc') (hlk : Cond.fieldLink y.1.cls n "java/util/ArrayList" "modCount" "I" ∈ tw) (K : G E y d mc ms Q h0 pc' L (vI (h.1 (13, i) 0) :: st) h cu su) : G E y d mc ms Q h0 pc L (vR (13, i) :: st) h cu su :=
  g_get (k := 0) (ci := 0) (N := 3) hd hp rfl ck_0 (by decide) hlk (Or.inr wd_sf) (fun _ => rfl) (fun _ _ => okV_I h _) K
theorem g_putM {i n : Nat} {x : Int32} (hd : decode y.2.1 pc = .ok (.putfield n, 3)) (hp : pc + 3 = pc') (hlk : Cond.fieldLink y.1.cls n "java/util/ArrayList" "modCount" "I" ∈ tw) (K : G E y d mc ms Q h0 pc' L st (wI h (13, i) 0 x) cu su) : G E y d mc ms Q h0 pc L (vI x :: vR (13, i) :: st) h cu su := by
  subst hp
  intro p e s m args below meth c adr0 adr H locs ls CC hE hS hW ho hoL hl
  obtain ⟨hx, hb, hml, hr, hlk', hown, hnm, hts, hK, hN, hX, hbs, hok⟩ := id CC
  obtain ⟨⟨nl, hn, hP, hD⟩, hcl⟩ := id hS
  obtain ⟨c1, c2, c3, c4, c5, c6⟩ := ck_0
  have hm : mt (13, i) = (0, 3) := rfl
  have ha : h.2.2 (13, i) = true := okS_hd (okS_tl ho) (13, i) rfl
  obtain ⟨k0, hk0, hw⟩ := Sm.at (E := E) (adr := adr) hn ha (by rw [hm]; decide)
  rw [cE_O hm c2] at hw
  refine va_put (v := .int x) hx hb hts c3 (vty 0) c4 c5 hown hK hP hD hW k0 hw c1 0 (by decide) (hts _ hlk) (u_same (hts _ wd_sf)) rfl (c4 0 (by decide)) rfl rfl (by rw [oC_len]; decide) hd (fun H1 locs1 hP1 hD1 hS1 => ?_)
  rw [oC_I (by decide) rfl, ← cE_O (aC := E.2.2.2.1) hm c2] at hP1 hD1
  exact K p e s m args below meth c adr0 adr H1 locs1 ls CC hE (Sm_wI hn hD hcl hk0 hP1 hD1) hS1 (okS_t2 ho) hoL hl
/-- the empty array that all new lists have -/
theorem g_gets0 {n : Nat} (ha : h.2.2 (91, 0) = true) (hd : decode y.2.1 pc = .ok (.getstatic n, 3)) (hp : pc + 3 = pc') (hlk : Cond.fieldLink y.1.cls n "java/util/ArrayList" "DEFAULTCAPACITY_EMPTY_ELEMENTDATA" "[Ljava/lang/Object;" ∈ tw) (K : G E y d mc ms Q h0 pc' L (vR (91, 0) :: st) h cu su) : G E y d mc ms Q h0 pc L st h cu su := by
  subst hp
  intro p e s m args below meth c adr0 adr H locs ls CC hE hS hW ho hoL hl
  obtain ⟨hx, hb, hml, hr, hlk', hown, hnm, hts, hK, hN, hX, hbs, hok⟩ := id CC
  obtain ⟨z1, -⟩ := hok.2.2 adr0 s hX
  have k2 := K p e s m args below meth c adr0 adr H locs ls CC hE hS hW (okS_cons (okV_R ha) ho) hoL hl
  have ea : adr (91, 0) = adr0 (91, 0) := hE.2.2 (91, 0) (by decide)
  have es : (vR (91, 0) :: st).map (tv adr) = .ref (adr0 (91, 0)) :: st.map (tv adr) := by
    rw [List.map_cons]
    exact congrArg (fun z => Value.ref z :: st.map (tv adr)) ea
  rw [es] at k2
  exact va_gets hx hb z1 hW hown (hts _ hlk) (fun _ q => q) hd k2
theorem g_alen0 {v : Int32} (hd : decode y.2.1 pc = .ok (.arraylength, 1)) (hp : pc + 1 = pc') (K : G E y d mc ms Q h0 pc' L (vI (nI 0) :: st) h cu su) : G E y d mc ms Q h0 pc L (vR (91, 0) :: st) h cu su := by
  subst hp
  intro p e s m args below meth c adr0 adr H locs ls CC hE hS hW ho hoL hl
  obtain ⟨hx, hb, hml, hr, hlk', hown, hnm, hts, hK, hN, hX, hbs, hok⟩ := id CC
  obtain ⟨-, z2, -⟩ := hok.2.2 adr0 s hX
  have k2 := K p e s m args below meth c adr0 adr H locs ls CC hE hS hW (okS_I (okS_tl ho)) hoL hl
  have ea : adr (91, 0) = adr0 (91, 0) := hE.2.2 (91, 0) (by decide)
  show W p E.1 e (room d mc ms) s m args below meth c H locs cu su _ (F0 m pc ls (.ref (adr (91, 0)) :: st.map (tv adr)))
  rw [ea]
  exact va_tlen hx hb z2 hW rfl hd k2
/-- two references that are one name -/
theorem g_acmp_same {a : Ad} {off : Int} {tgt : Nat} (hd : decode y.2.1 pc = .ok (.if_acmp .eq off, 3)) (hp : pc + 3 = pc') (ht : (pc : Int) + off = (tgt : Int)) (K : G E y d mc ms Q h0 tgt L st h cu su) : G E y d mc ms Q h0 pc L (vR a :: vR a :: st) h cu su := by
  intro p e s m args below meth c adr0 adr H locs ls CC hE hS hW ho hoL hl
  obtain ⟨hx, hb, hml, hr, hlk', hown, hnm, hts, hK, hN, hX, hbs, hok⟩ := id CC
  exact lv_acmp_eq (rx := some (adr a)) (ry := some (adr a)) hx hb hd ht (fun _ => K p e s m args below meth c adr0 adr H locs ls CC hE hS hW (okS_t2 ho) hoL hl) (fun q => absurd rfl q)
theorem g_max {n : Nat} {x z : Int32} (hd : decode y.2.1 pc = .ok (.invokestatic n, 3)) (hp : pc + 3 = pc') (w1 : Cond.methodLink y.1.cls n Lib.Math.max.name ∈ tw) (w2 : Cond.static Lib.Math.max.name ∈ tw) (w3 : Cond.initialized "java/lang/Math" ∈ tw) (w4 : Cond.code Lib.Math.max.name Lib.Math.max.code 2 (some .int) ∈ tw) (hdd : 1 ≤ d) (hc : cu ≤ mc) (hs : su ≤ ms) (hr8 : (st.map fun v => if isL v = true then 2 else 1).sum ≤ 8) (K : G E y d mc ms Q h0 pc' L (vI (if x < z then z else x) :: st) h cu su) : G E y d mc ms Q h0 pc L (vI z :: vI x :: st) h cu su := by
  subst hp
  intro p e s m args below meth c adr0 adr H locs ls CC hE hS hW ho hoL hl
  obtain ⟨hx, hb, hml, hr, hlk', hown, hnm, hts, hK, hN, hX, hbs, hok⟩ := id CC
  have h8 := cat_le (adr := adr) hr8
  exact va_mmax hx hb (hml.trans hl.1.symm) hown (hts _ w1) (hts _ w2) (hts _ w3) (hts _ w4) hdd (by show _ ≤ 64 * d; omega) hc hs hd (K p e s m args below meth c adr0 adr H locs ls CC hE hS hW (okS_I (okS_t2 ho)) hoL hl)
theorem g_min {n : Nat} {x z : Int32} (hd : decode y.2.1 pc = .ok (.invokestatic n, 3)) (hp : pc + 3 = pc') (w1 : Cond.methodLink y.1.cls n Lib.Math.min.name ∈ tw) (w2 : Cond.static Lib.Math.min.name ∈ tw) (w3 : Cond.initialized "java/lang/Math" ∈ tw) (w4 : Cond.code Lib.Math.min.name Lib.Math.min.code 2 (some .int) ∈ tw) (hdd : 1 ≤ d) (hc : cu ≤ mc) (hs : su ≤ ms) (hr8 : (st.map fun v => if isL v = true then 2 else 1).sum ≤ 8) (K : G E y d mc ms Q h0 pc' L (vI (if z < x then z else x) :: st) h cu su) : G E y d mc ms Q h0 pc L (vI z :: vI x :: st) h cu su := by
  subst hp
  intro p e s m args below meth c adr0 adr H locs ls CC hE hS hW ho hoL hl
  obtain ⟨hx, hb, hml, hr, hlk', hown, hnm, hts, hK, hN, hX, hbs, hok⟩ := id CC
  have h8 := cat_le (adr := adr) hr8
  exact va_mmin hx hb (hml.trans hl.1.symm) hown (hts _ w1) (hts _ w2) (hts _ w3) (hts _ w4) hdd (by show _ ≤ 64 * d; omega) hc hs hd (K p e s m args below meth c adr0 adr H locs ls CC hE hS hW (okS_I (okS_t2 ho)) hoL hl)
end GX
theorem mx_s : Cond.static Lib.Math.max.name ∈ tw := st_J9_max_7cf53
theorem mx_c : Cond.code Lib.Math.max.name Lib.Math.max.code 2 (some .int) ∈ tw := co_J9_max_7cf53
theorem mn_s : Cond.static Lib.Math.min.name ∈ tw := st_J9_min_7cf53
theorem mn_c : Cond.code Lib.Math.min.name Lib.Math.min.code 2 (some .int) ∈ tw := co_J9_min_7cf53
