/-! the one String constant, which lies outside: its letters -/
section GO
variable {E : En} {y : Mt} {d mc ms : Nat} {Q : Option V → Hp → Prop} {h0 : Hp} {pc pc' : Nat} {L : List (Option V)} {st : List V} {h : Hp} {cu su : Nat}
theorem g_ldcS (ha : h.2.2 (92, 0) = true) (hc : y.1.cls = "ToyHouse$RuleText") (hd : decode y.2.1 pc = .ok (.ldc 117, 2)) (hp : pc + 2 = pc') (K : G E y d mc ms Q h0 pc' L (vR (92, 0) :: st) h cu su) : G E y d mc ms Q h0 pc L st h cu su := by
  subst hp
  intro p e s m args below meth c adr0 adr H locs ls CC hE hS hW ho hoL hl
  obtain ⟨hx, hb, hml, hr, hlk', hown, hnm, hts, hK, hN, hX, hbs, hok⟩ := id CC
  obtain ⟨z1, z2, z3, z4, z5, z6, z7, z8, z9, -⟩ := hok.2.2 adr0 s hX
  have k2 := K p e s m args below meth c adr0 adr H locs ls CC hE hS hW (okS_cons (okV_R ha) ho) hoL hl
  have ea : adr (92, 0) = adr0 (92, 0) := hE.2.2 (92, 0) (by decide)
  have es : (vR (92, 0) :: st).map (tv adr) = .ref (adr0 (92, 0)) :: st.map (tv adr) := by
    rw [List.map_cons]
    exact congrArg (fun z => Value.ref z :: st.map (tv adr)) ea
  rw [es] at k2
  rw [hc] at hown
  exact va_ldcS hx hb hown z4 hd k2
theorem g_gcsO {n : Nat} (hd : decode y.2.1 pc = .ok (.getstatic n, 3)) (hp : pc + 3 = pc') (hlk : Cond.fieldLink y.1.cls n "java/lang/String" "COMPACT_STRINGS" "Z" ∈ tw) (K : G E y d mc ms Q h0 pc' L (vI (nI 1) :: st) h cu su) : G E y d mc ms Q h0 pc L st h cu su := by
  subst hp
  intro p e s m args below meth c adr0 adr H locs ls CC hE hS hW ho hoL hl
  obtain ⟨hx, hb, hml, hr, hlk', hown, hnm, hts, hK, hN, hX, hbs, hok⟩ := id CC
  obtain ⟨z1, z2, z3, z4, z5, z6, z7, z8, z9, -⟩ := hok.2.2 adr0 s hX
  have k2 := K p e s m args below meth c adr0 adr H locs ls CC hE hS hW (okS_I ho) hoL hl
  exact va_gets hx hb z9 hW hown (hts _ hlk) (fun _ q => q) hd k2
theorem g_gvalO {n : Nat} (ha : h.2.2 (93, 0) = true) (hd : decode y.2.1 pc = .ok (.getfield n, 3)) (hp : pc + 3 = pc') (hlk : Cond.fieldLink y.1.cls n "java/lang/String" "value" "[B" ∈ tw) (K : G E y d mc ms Q h0 pc' L (vR (93, 0) :: st) h cu su) : G E y d mc ms Q h0 pc L (vR (92, 0) :: st) h cu su := by
  subst hp
  intro p e s m args below meth c adr0 adr H locs ls CC hE hS hW ho hoL hl
  obtain ⟨hx, hb, hml, hr, hlk', hown, hnm, hts, hK, hN, hX, hbs, hok⟩ := id CC
  obtain ⟨z1, z2, z3, z4, z5, z6, z7, z8, z9, -⟩ := hok.2.2 adr0 s hX
  have k2 := K p e s m args below meth c adr0 adr H locs ls CC hE hS hW (okS_cons (okV_R ha) (okS_tl ho)) hoL hl
  have ea : adr (92, 0) = adr0 (92, 0) := hE.2.2 (92, 0) (by decide)
  have eb : adr (93, 0) = adr0 (93, 0) := hE.2.2 (93, 0) (by decide)
  have es : (vR (93, 0) :: st).map (tv adr) = .ref (adr0 (93, 0)) :: st.map (tv adr) := by
    rw [List.map_cons]
    exact congrArg (fun z => Value.ref z :: st.map (tv adr)) eb
  rw [es] at k2
  show W p E.1 e (room d mc ms) s m args below meth c H locs cu su _ (F0 m pc ls (.ref (adr (92, 0)) :: st.map (tv adr)))
  rw [ea]
  exact vk_getf hx hb z6 hW hown (hts _ hlk) (fun _ q => q) hd k2
theorem g_gcodO {n : Nat} (hd : decode y.2.1 pc = .ok (.getfield n, 3)) (hp : pc + 3 = pc') (hlk : Cond.fieldLink y.1.cls n "java/lang/String" "coder" "B" ∈ tw) (K : G E y d mc ms Q h0 pc' L (vI (nI 0) :: st) h cu su) : G E y d mc ms Q h0 pc L (vR (92, 0) :: st) h cu su := by
  subst hp
  intro p e s m args below meth c adr0 adr H locs ls CC hE hS hW ho hoL hl
  obtain ⟨hx, hb, hml, hr, hlk', hown, hnm, hts, hK, hN, hX, hbs, hok⟩ := id CC
  obtain ⟨z1, z2, z3, z4, z5, z6, z7, z8, z9, -⟩ := hok.2.2 adr0 s hX
  have k2 := K p e s m args below meth c adr0 adr H locs ls CC hE hS hW (okS_I (okS_tl ho)) hoL hl
  have ea : adr (92, 0) = adr0 (92, 0) := hE.2.2 (92, 0) (by decide)
  show W p E.1 e (room d mc ms) s m args below meth c H locs cu su _ (F0 m pc ls (.ref (adr (92, 0)) :: st.map (tv adr)))
  rw [ea]
  exact vk_getf hx hb z7 hW hown (hts _ hlk) (fun _ q => q) hd k2
theorem g_alenO (hd : decode y.2.1 pc = .ok (.arraylength, 1)) (hp : pc + 1 = pc') (K : G E y d mc ms Q h0 pc' L (vI (nI 17) :: st) h cu su) : G E y d mc ms Q h0 pc L (vR (93, 0) :: st) h cu su := by
  subst hp
  intro p e s m args below meth c adr0 adr H locs ls CC hE hS hW ho hoL hl
  obtain ⟨hx, hb, hml, hr, hlk', hown, hnm, hts, hK, hN, hX, hbs, hok⟩ := id CC
  obtain ⟨z1, z2, z3, z4, z5, z6, z7, z8, z9, -⟩ := hok.2.2 adr0 s hX
  have k2 := K p e s m args below meth c adr0 adr H locs ls CC hE hS hW (okS_I (okS_tl ho)) hoL hl
  have ea : adr (93, 0) = adr0 (93, 0) := hE.2.2 (93, 0) (by decide)
  show W p E.1 e (room d mc ms) s m args below meth c H locs cu su _ (F0 m pc ls (.ref (adr (93, 0)) :: st.map (tv adr)))
  rw [ea]
  exact va_tlen hx hb z8 hW rfl hd k2
theorem g_baldO {j : Nat} (hd : decode y.2.1 pc = .ok (.baload, 1)) (hp : pc + 1 = pc') (hj : j < 17) (K : G E y d mc ms Q h0 pc' L (vI (litB j) :: st) h cu su) : G E y d mc ms Q h0 pc L (vI (nI j) :: vR (93, 0) :: st) h cu su := by
  subst hp
  intro p e s m args below meth c adr0 adr H locs ls CC hE hS hW ho hoL hl
  obtain ⟨hx, hb, hml, hr, hlk', hown, hnm, hts, hK, hN, hX, hbs, hok⟩ := id CC
  obtain ⟨z1, z2, z3, z4, z5, z6, z7, z8, z9, -⟩ := hok.2.2 adr0 s hX
  have k2 := K p e s m args below meth c adr0 adr H locs ls CC hE hS hW (okS_I (okS_t2 ho)) hoL hl
  have ea : adr (93, 0) = adr0 (93, 0) := hE.2.2 (93, 0) (by decide)
  show W p E.1 e (room d mc ms) s m args below meth c H locs cu su _ (F0 m pc ls (.int (nI j) :: .ref (adr (93, 0)) :: st.map (tv adr)))
  rw [ea]
  exact va_tb hx hb z8 hW (vp_in_nI hj (by omega)) (by rw [nI_clamp (by omega)]; rfl) hd k2
/-- a method of the String constant -/
theorem g_invVO {y' : Mt} {d' mc' ms' n idx : Nat} {as : List V} {Q' : Option V → Hp → Prop} (hM : Call E y' d' mc' ms' (vR (92, 0) :: as) h Q') (hd : decode y.2.1 pc = .ok (.invokevirtual idx, 3)) (hp : pc + 3 = pc')
    (hcl : y'.1.cls = "java/lang/String") (w1 : Cond.methodLink y.1.cls idx y'.1 ∈ tw) (w2 : Cond.instanceMethod y'.1 ∈ tw) (w3 : Cond.selects y'.1.cls y'.1 y'.1 ∈ tw) (w4 : Cond.initialized y'.1.cls ∈ tw) (w5 : Cond.code y'.1 y'.2.1 y'.2.2.1 y'.2.2.2 ∈ tw)
    (hy : y'.1.cls ≠ "java/lang/invoke/MethodHandle" ∧ y'.1.cls ≠ "java/lang/invoke/VarHandle" ∧ (parseMethodDescriptor y'.1.desc).map (fun d => d.parameters.length) = some n) (hn : as.length = n) (hdd : d' + 1 ≤ d) (hml' : y'.2.2.1 ≤ 45) (hf : cu + mc' ≤ mc ∧ su + ms' ≤ ms) (hr8 : (st.map fun v => if isL v = true then 2 else 1).sum ≤ 8)
    (K : ∀ r h', Q' r h' → (∀ a, h.2.2 a = true → h'.2.2 a = true) → G E y d mc ms Q h0 pc' L (r.toList ++ st) h' (cu + mc') (su + ms')) : G E y d mc ms Q h0 pc L (as.reverse ++ vR (92, 0) :: st) h cu su := by
  subst hp
  intro p e s m args below meth c adr0 adr H locs ls CC hE hS hW ho hoL hl
  obtain ⟨hx, hb, hml, hr, hlk', hown, hnm, hts, hK, hN, hX, hbs, hok⟩ := id CC
  obtain ⟨z1, z2, z3, z4, z5, z6, z7, z8, z9, -⟩ := hok.2.2 adr0 s hX
  have ea : adr (92, 0) = adr0 (92, 0) := hE.2.2 (92, 0) (by decide)
  have hoa : okS h (vR (92, 0) :: as) := fun w hw => by
    rcases List.mem_cons.mp hw with z | z
    · rw [z]; exact ho _ (List.mem_append_right _ List.mem_cons_self)
    · exact ho w (List.mem_append_left _ (List.mem_reverse.mpr z))
  have hos : okS h st := fun w hw => ho w (List.mem_append_right _ (List.mem_cons_of_mem _ hw))
  have hG : GoodIn tw (wsV y.1.cls idx y'.1.cls y'.1 (ws1 y')) := fun w hw => by
    rcases List.mem_append.mp hw with z | z
    · have z2 : w ∈ tw := by
        simp only [List.mem_cons, List.not_mem_nil, or_false] at z
        rcases z with rfl | rfl | rfl | rfl
        · exact w1
        · exact w2
        · exact w3
        · exact w4
      exact tw_good w z2
    · exact ws1_good w5 w z
  have run := va_runV (R := room d mc ms) (H := H) (locs := locs) (below := below) (e := e) (cells := cu) (slots := su) (l := E.1) (meth := meth) (As := as.map (tv adr)) (rest := st.map (tv adr)) (g := F0 m pc ls ((as.reverse ++ vR (92, 0) :: st).map (tv adr))) (b := adr (92, 0)) (C := y'.1.cls) (nL := y.2.2.1) ⟨hx, hb, hml, hown, hts⟩ (hM adr) (cwV n hts hG rfl rfl rfl ⟨rfl, hy⟩ (room_ok hdd hml'))
    ⟨PU_blind hok, by rw [hcl, ea]; exact va_Orecv z5 hW, fun U hU hWm => PU_at CC hE hS hW hoa U hU hWm⟩ rfl (by rw [List.length_map]; exact hn) hl.1 (by show (as.reverse ++ vR (92, 0) :: st).map (tv adr) = (as.map (tv adr)).reverse ++ _; rw [List.map_append, List.map_reverse]; rfl) (lv_room (cat_le hr8)) hd hf
  exact g_back CC hE hW hos hoL hl run K
end GO
theorem lit_isLt : ∀ j, j < 17 → ∀ c, c < 256 → litB j = nI c → isLt c := by
  intro j hj c hc e
  have key : ∀ (k : Nat), k < 256 → litB j = nI k → c = k := fun k hk z => (nI_eq (by omega) (by omega)).mp (e.symm.trans z)
  unfold isLt
  rcases (show j = 0 ∨ j = 1 ∨ j = 2 ∨ j = 3 ∨ j = 4 ∨ j = 5 ∨ j = 6 ∨ j = 7 ∨ j = 8 ∨ j = 9 ∨ j = 10 ∨ j = 11 ∨ j = 12 ∨ j = 13 ∨ j = 14 ∨ j = 15 ∨ j = 16 by omega) with rfl | rfl | rfl | rfl | rfl | rfl | rfl | rfl | rfl | rfl | rfl | rfl | rfl | rfl | rfl | rfl | rfl
  · have := key 107 (by decide) (by decide)
    omega
  · have := key 97 (by decide) (by decide)
    omega
  · have := key 112 (by decide) (by decide)
    omega
  · have := key 122 (by decide) (by decide)
    omega
  · have := key 119 (by decide) (by decide)
    omega
  · have := key 109 (by decide) (by decide)
    omega
  · have := key 116 (by decide) (by decide)
    omega
  · have := key 110 (by decide) (by decide)
    omega
  · have := key 121 (by decide) (by decide)
    omega
  · have := key 101 (by decide) (by decide)
    omega
  · have := key 118 (by decide) (by decide)
    omega
  · have := key 104 (by decide) (by decide)
    omega
  · have := key 100 (by decide) (by decide)
    omega
  · have := key 115 (by decide) (by decide)
    omega
  · have := key 108 (by decide) (by decide)
    omega
  · have := key 113 (by decide) (by decide)
    omega
  · have := key 99 (by decide) (by decide)
    omega
theorem isLt_lit {c : Nat} (h : isLt c) : ∃ j, j < 17 ∧ litB j = nI c := by
  rcases h with rfl | rfl | rfl | rfl | rfl | rfl | rfl | rfl | rfl | rfl | rfl | rfl | rfl | rfl | rfl | rfl | rfl
  · exact ⟨0, by decide, by decide⟩
  · exact ⟨1, by decide, by decide⟩
  · exact ⟨2, by decide, by decide⟩
  · exact ⟨3, by decide, by decide⟩
  · exact ⟨4, by decide, by decide⟩
  · exact ⟨5, by decide, by decide⟩
  · exact ⟨6, by decide, by decide⟩
  · exact ⟨7, by decide, by decide⟩
  · exact ⟨8, by decide, by decide⟩
  · exact ⟨9, by decide, by decide⟩
  · exact ⟨10, by decide, by decide⟩
  · exact ⟨11, by decide, by decide⟩
  · exact ⟨12, by decide, by decide⟩
  · exact ⟨13, by decide, by decide⟩
  · exact ⟨14, by decide, by decide⟩
  · exact ⟨15, by decide, by decide⟩
  · exact ⟨16, by decide, by decide⟩
theorem lit_b {c : Nat} (h : 97 ≤ c ∧ c ≤ 122) : (nI c).toInt8.toInt32 = nI c := by
  have : ∀ k, k < 26 → (nI (97 + k)).toInt8.toInt32 = nI (97 + k) := by decide +kernel
  have q := this (c - 97) (by omega)
  rw [show 97 + (c - 97) = c by omega] at q
  exact q
theorem lit_c {c : Nat} (h : c < 256) : ((nI c).toUInt32 % 65536).toInt32 = nI c := by
  rw [pk_char]
  congr 1
  have : (nI c).toBitVec.toNat = c := by
    show (BitVec.ofNat 32 c).toNat = c
    rw [BitVec.toNat_ofNat]
    omega
  rw [this]
  omega

set_option maxRecDepth 4000 in
theorem cs_latin {E : En} (hok : EOK E) {h : Hp}  : Fn E m_J0_isLatin1_aae02 0 [vR (92, 0)] h (vI (nI 1)) := by
  refine Call.enter hok (by decide) (Nat.le_of_ble_eq_true rfl) ?_
  show G E m_J0_isLatin1_aae02 0 0 0 _ h 0 [some (vR (92, 0))] [] h 0 0
  refine g_gcsO (pc' := 3) dJ0_isLatin1_aae02_0 rfl fl_J0_38 ?_
  refine g_if_eqN (tgt := 17) (pc' := 6) dJ0_isLatin1_aae02_3 rfl (by decide) (by decide) (fun q => False.elim (by revert q; decide)) (fun _ => ?_)
  refine g_aload_n (pc' := 7) dJ0_isLatin1_aae02_6 rfl rfl ?_
  refine g_gcodO (pc' := 10) dJ0_isLatin1_aae02_7 rfl fl_J0_15 ?_
  refine g_if_neN (tgt := 17) (pc' := 13) dJ0_isLatin1_aae02_10 rfl (by decide) (by decide) (fun q => False.elim (by revert q; decide)) (fun _ => ?_)
  refine g_iconstN (n := 1) (pc' := 14) dJ0_isLatin1_aae02_13 rfl ?_
  refine g_goto (tgt := 18) dJ0_isLatin1_aae02_14 (by decide) ?_
  refine g_zret dJ0_isLatin1_aae02_18 rfl (by rfl) (by decide) (by decide) ?_
  exact ⟨rfl, rfl⟩
set_option maxRecDepth 4000 in
theorem cs_coder {E : En} (hok : EOK E) {h : Hp}  : Fn E m_J0_coder_7d493 0 [vR (92, 0)] h (vI (nI 0)) := by
  refine Call.enter hok (by decide) (Nat.le_of_ble_eq_true rfl) ?_
  show G E m_J0_coder_7d493 0 0 0 _ h 0 [some (vR (92, 0))] [] h 0 0
  refine g_gcsO (pc' := 3) dJ0_coder_7d493_0 rfl fl_J0_38 ?_
  refine g_if_eqN (tgt := 13) (pc' := 6) dJ0_coder_7d493_3 rfl (by decide) (by decide) (fun q => False.elim (by revert q; decide)) (fun _ => ?_)
  refine g_aload_n (pc' := 7) dJ0_coder_7d493_6 rfl rfl ?_
  refine g_gcodO (pc' := 10) dJ0_coder_7d493_7 rfl fl_J0_15 ?_
  refine g_goto (tgt := 14) dJ0_coder_7d493_10 (by decide) ?_
  refine g_zret dJ0_coder_7d493_14 rfl (by rfl) (by decide) (by decide) ?_
  exact ⟨rfl, rfl⟩
set_option maxRecDepth 4000 in
theorem cs_length {E : En} (hok : EOK E) {h : Hp} (h93 : h.2.2 (93, 0) = true) : Fn E m_J0_length_8abf5 1 [vR (92, 0)] h (vI (nI 17)) := by
  refine Call.enter hok (by decide) (Nat.le_of_ble_eq_true rfl) ?_
  show G E m_J0_length_8abf5 1 0 0 _ h 0 [some (vR (92, 0))] [] h 0 0
  refine g_aload_n (pc' := 1) dJ0_length_8abf5_0 rfl rfl ?_
  refine g_gvalO (h93) (pc' := 4) dJ0_length_8abf5_1 rfl fl_J0_9 ?_
  refine g_alenO (pc' := 5) dJ0_length_8abf5_4 rfl ?_
  refine g_aload_n (pc' := 6) dJ0_length_8abf5_5 rfl rfl ?_
  refine g_invVO (pc' := 9) (cs_coder hok) dJ0_length_8abf5_6 rfl rfl ml_J0_335 im_J0_coder_7d493 sl_J0_coder_7d493 in_J0 co_J0_coder_7d493 pd_J0_coder_7d493 rfl (by omega) (by decide) ⟨by decide, by decide⟩ (Nat.le_of_ble_eq_true rfl) ?_
  rintro _ _ ⟨rfl, rfl⟩ -
  refine g_ishr (pc' := 10) dJ0_length_8abf5_9 rfl ?_
  refine g_iret dJ0_length_8abf5_10 rfl (by decide) (by decide) ?_
  exact ⟨congrArg (fun z : Int32 => some (vI z)) (by decide), rfl⟩
set_option maxRecDepth 4000 in
theorem cs_enc {E : En} (hok : EOK E) {h : Hp} {c : Nat} (hc : 97 ≤ c ∧ c ≤ 122) : Fn E m_J1_canEncode_9a6ad 0 [vI (nI c)] h (vI (nI 1)) := by
  refine Call.enter hok (by decide) (Nat.le_of_ble_eq_true rfl) ?_
  show G E m_J1_canEncode_9a6ad 0 0 0 _ h 0 [some (vI (nI c))] [] h 0 0
  refine g_iload_n (pc' := 1) dJ1_canEncode_9a6ad_0 rfl rfl ?_
  refine g_if_lt (tgt := 15) (pc' := 4) dJ1_canEncode_9a6ad_1 rfl (by decide) (fun c1 => ?_) (fun c1 => ?_)
  · exact absurd c1 (nI_pos (by omega))
  ·
    refine g_iload_n (pc' := 5) dJ1_canEncode_9a6ad_4 rfl rfl ?_
    refine g_sipushN (n := 255) (pc' := 8) dJ1_canEncode_9a6ad_5 rfl (by decide) ?_
    refine g_icmp_gtN (tgt := 15) (pc' := 11) dJ1_canEncode_9a6ad_8 rfl (by decide) (by omega) (by omega) (fun c8 => ?_) (fun c8 => ?_)
    · exact absurd c8 (by omega)
    ·
      refine g_iconstN (n := 1) (pc' := 12) dJ1_canEncode_9a6ad_11 rfl ?_
      refine g_goto (tgt := 16) dJ1_canEncode_9a6ad_12 (by decide) ?_
      refine g_zret dJ1_canEncode_9a6ad_16 rfl (by rfl) (by decide) (by decide) ?_
      exact ⟨rfl, rfl⟩
set_option maxRecDepth 4000 in
theorem cs_loop {E : En} (hok : EOK E) {h h0 : Hp} {c : Nat} (hc : 97 ≤ c ∧ c ≤ 122) {d : Nat} {Q : Option V → Hp → Prop} (hQ : ∀ v : Int32, (v < 0 ↔ ¬ isLt c) → Q (some (vI v)) h) : ∀ k j : Nat, j ≤ 17 → 17 - j = k → (∀ i, i < j → litB i ≠ nI c) → G E m_J1_indexOfChar_4cfef d 0 0 Q h0 7 [some (vR (93, 0)), some (vI (nI c)), some (vI (nI 0)), some (vI (nI 17)), some (vI (nI c)), some (vI (nI j))] [] h 0 0 := by
  intro k
  induction k with
  | zero =>
    intro j h1 h2 hi
    refine g_iload (pc' := 9) dJ1_indexOfChar_4cfef_7 rfl rfl ?_
    refine g_iload_n (pc' := 10) dJ1_indexOfChar_4cfef_9 rfl rfl ?_
    refine g_icmp_geN (tgt := 31) (pc' := 13) dJ1_indexOfChar_4cfef_10 rfl (by decide) (by omega) (by omega) (fun c10 => ?_) (fun c10 => ?_)
    ·
      refine g_iconst (v := -1) (pc' := 32) dJ1_indexOfChar_4cfef_31 rfl (by decide) ?_
      refine g_iret dJ1_indexOfChar_4cfef_32 rfl (by decide) (by decide) ?_
      exact hQ (-1) ⟨fun _ z => by
        obtain ⟨i, a, e⟩ := isLt_lit z
        exact hi i (by omega) e, fun _ => by decide⟩
    · exact absurd c10 (by omega)
  | succ k ih =>
    intro j h1 h2 hi
    refine g_iload (pc' := 9) dJ1_indexOfChar_4cfef_7 rfl rfl ?_
    refine g_iload_n (pc' := 10) dJ1_indexOfChar_4cfef_9 rfl rfl ?_
    refine g_icmp_geN (tgt := 31) (pc' := 13) dJ1_indexOfChar_4cfef_10 rfl (by decide) (by omega) (by omega) (fun c10 => ?_) (fun c10 => ?_)
    · exact absurd c10 (by omega)
    ·
      refine g_aload_n (pc' := 14) dJ1_indexOfChar_4cfef_13 rfl rfl ?_
      refine g_iload (pc' := 16) dJ1_indexOfChar_4cfef_14 rfl rfl ?_
      refine g_baldO (pc' := 17) dJ1_indexOfChar_4cfef_16 rfl (by omega) ?_
      refine g_iload (pc' := 19) dJ1_indexOfChar_4cfef_17 rfl rfl ?_
      refine g_icmp_ne (tgt := 25) (pc' := 22) dJ1_indexOfChar_4cfef_19 rfl (by decide) (fun c19 => ?_) (fun c19 => ?_)
      ·
        refine g_iincN (k := 1) (pc' := 28) dJ1_indexOfChar_4cfef_25 rfl rfl (by decide) rfl ?_
        try simp only [List.set]
        refine g_goto (tgt := 7) dJ1_indexOfChar_4cfef_28 (by decide) ?_
        refine ih (j + 1) (by omega) (by omega) (fun i hj => ?_)
        rcases Nat.lt_succ_iff_lt_or_eq.mp hj with z | rfl
        · exact hi i z
        · exact c19
      ·
        refine g_iload (pc' := 24) dJ1_indexOfChar_4cfef_22 rfl rfl ?_
        refine g_iret dJ1_indexOfChar_4cfef_24 rfl (by decide) (by decide) ?_
        exact hQ (nI j) ⟨fun z => absurd z (nI_pos (by omega)), fun z => absurd (lit_isLt j (by omega) c (by omega) c19) z⟩
set_option maxRecDepth 4000 in
theorem cs_char {E : En} (hok : EOK E) {h : Hp} {c : Nat} (hc : 97 ≤ c ∧ c ≤ 122) : Call E m_J1_indexOfChar_4cfef 0 0 0 [vR (93, 0), vI (nI c), vI (nI 0), vI (nI 17)] h (fun r h' => (∃ v : Int32, r = some (vI v) ∧ (v < 0 ↔ ¬ isLt c)) ∧ h = h') := by
  refine Call.enter hok (by decide) (Nat.le_of_ble_eq_true rfl) ?_
  show G E m_J1_indexOfChar_4cfef 0 0 0 _ h 0 [some (vR (93, 0)), some (vI (nI c)), some (vI (nI 0)), some (vI (nI 17)), none, none] [] h 0 0
  refine g_iload_n (pc' := 1) dJ1_indexOfChar_4cfef_0 rfl rfl ?_
  refine g_i2b (pc' := 2) dJ1_indexOfChar_4cfef_1 rfl ?_
  rw [lit_b hc]
  refine g_istore (pc' := 4) dJ1_indexOfChar_4cfef_2 rfl (by decide) rfl ?_
  try simp only [List.set]
  refine g_iload_n (pc' := 5) dJ1_indexOfChar_4cfef_4 rfl rfl ?_
  refine g_istore (pc' := 7) dJ1_indexOfChar_4cfef_5 rfl (by decide) rfl ?_
  try simp only [List.set]
  exact cs_loop hok hc (fun v hv => ⟨⟨v, rfl, hv⟩, rfl⟩) _ 0 (by decide) rfl (fun i hi => absurd hi (Nat.not_lt_zero i))
set_option maxRecDepth 4000 in
theorem cs_ix3 {E : En} (hok : EOK E) {h : Hp} {c : Nat} (hc : 97 ≤ c ∧ c ≤ 122) : Call E m_J1_indexOf_4cfef 1 0 0 [vR (93, 0), vI (nI c), vI (nI 0), vI (nI 17)] h (fun r h' => (∃ v : Int32, r = some (vI v) ∧ (v < 0 ↔ ¬ isLt c)) ∧ h = h') := by
  refine Call.enter hok (by decide) (Nat.le_of_ble_eq_true rfl) ?_
  show G E m_J1_indexOf_4cfef 1 0 0 _ h 0 [some (vR (93, 0)), some (vI (nI c)), some (vI (nI 0)), some (vI (nI 17))] [] h 0 0
  refine g_iload_n (pc' := 1) dJ1_indexOf_4cfef_0 rfl rfl ?_
  refine g_invS (pc' := 4) (cs_enc hok hc) dJ1_indexOf_4cfef_1 rfl ml_J1_88 st_J1_canEncode_9a6ad in_J1 co_J1_canEncode_9a6ad pd_J1_canEncode_9a6ad rfl (by omega) (by decide) ⟨by decide, by decide⟩ (Nat.le_of_ble_eq_true rfl) ?_
  rintro _ _ ⟨rfl, rfl⟩ -
  refine g_if_neN (tgt := 9) (pc' := 7) dJ1_indexOf_4cfef_4 rfl (by decide) (by decide) (fun _ => ?_) (fun q => False.elim (by revert q; decide))
  refine g_iload_n (pc' := 10) dJ1_indexOf_4cfef_9 rfl rfl ?_
  refine g_iconstN (n := 0) (pc' := 11) dJ1_indexOf_4cfef_10 rfl ?_
  refine g_max (pc' := 14) dJ1_indexOf_4cfef_11 rfl ml_J1_92 mx_s in_J9 mx_c (by omega) (by decide) (by decide) (Nat.le_of_ble_eq_true rfl) ?_
  rw [ite_self]
  refine g_istore_n (pc' := 15) dJ1_indexOf_4cfef_14 rfl (by decide) rfl ?_
  try simp only [List.set]
  refine g_iload_n (pc' := 16) dJ1_indexOf_4cfef_15 rfl rfl ?_
  refine g_aload_n (pc' := 17) dJ1_indexOf_4cfef_16 rfl rfl ?_
  refine g_alenO (pc' := 18) dJ1_indexOf_4cfef_17 rfl ?_
  refine g_min (pc' := 21) dJ1_indexOf_4cfef_18 rfl ml_J1_38 mn_s in_J9 mn_c (by omega) (by decide) (by decide) (Nat.le_of_ble_eq_true rfl) ?_
  rw [ite_self]
  refine g_istore_n (pc' := 22) dJ1_indexOf_4cfef_21 rfl (by decide) rfl ?_
  try simp only [List.set]
  refine g_iload_n (pc' := 23) dJ1_indexOf_4cfef_22 rfl rfl ?_
  refine g_iload_n (pc' := 24) dJ1_indexOf_4cfef_23 rfl rfl ?_
  refine g_icmp_ltN (tgt := 29) (pc' := 27) dJ1_indexOf_4cfef_24 rfl (by decide) (by decide) (by decide) (fun _ => ?_) (fun q => False.elim (by revert q; decide))
  refine g_aload_n (pc' := 30) dJ1_indexOf_4cfef_29 rfl rfl ?_
  refine g_iload_n (pc' := 31) dJ1_indexOf_4cfef_30 rfl rfl ?_
  refine g_iload_n (pc' := 32) dJ1_indexOf_4cfef_31 rfl rfl ?_
  refine g_iload_n (pc' := 33) dJ1_indexOf_4cfef_32 rfl rfl ?_
  refine g_invS (pc' := 36) (cs_char hok hc) dJ1_indexOf_4cfef_33 rfl ml_J1_95 st_J1_indexOfChar_4cfef in_J1 co_J1_indexOfChar_4cfef pd_J1_indexOfChar_4cfef rfl (by omega) (by decide) ⟨by decide, by decide⟩ (Nat.le_of_ble_eq_true rfl) ?_
  rintro _ _ ⟨⟨v, rfl, hv⟩, rfl⟩ -
  refine g_iret dJ1_indexOf_4cfef_36 rfl (by decide) (by decide) ?_
  exact ⟨⟨v, rfl, hv⟩, rfl⟩
set_option maxRecDepth 4000 in
theorem cs_ix2 {E : En} (hok : EOK E) {h : Hp} (h93 : h.2.2 (93, 0) = true) {c : Nat} (hc : 97 ≤ c ∧ c ≤ 122) : Call E m_J0_indexOf_7cf53 2 0 0 [vR (92, 0), vI (nI c), vI (nI 0)] h (fun r h' => (∃ v : Int32, r = some (vI v) ∧ (v < 0 ↔ ¬ isLt c)) ∧ h = h') := by
  refine Call.enter hok (by decide) (Nat.le_of_ble_eq_true rfl) ?_
  show G E m_J0_indexOf_7cf53 2 0 0 _ h 0 [some (vR (92, 0)), some (vI (nI c)), some (vI (nI 0))] [] h 0 0
  refine g_aload_n (pc' := 1) dJ0_indexOf_7cf53_0 rfl rfl ?_
  refine g_invVO (pc' := 4) (cs_latin hok) dJ0_indexOf_7cf53_1 rfl rfl ml_J0_492 im_J0_isLatin1_aae02 sl_J0_isLatin1_aae02 in_J0 co_J0_isLatin1_aae02 pd_J0_isLatin1_aae02 rfl (by omega) (by decide) ⟨by decide, by decide⟩ (Nat.le_of_ble_eq_true rfl) ?_
  rintro _ _ ⟨rfl, rfl⟩ -
  refine g_if_eqN (tgt := 23) (pc' := 7) dJ0_indexOf_7cf53_4 rfl (by decide) (by decide) (fun q => False.elim (by revert q; decide)) (fun _ => ?_)
  refine g_aload_n (pc' := 8) dJ0_indexOf_7cf53_7 rfl rfl ?_
  refine g_gvalO (h93) (pc' := 11) dJ0_indexOf_7cf53_8 rfl fl_J0_9 ?_
  refine g_iload_n (pc' := 12) dJ0_indexOf_7cf53_11 rfl rfl ?_
  refine g_iload_n (pc' := 13) dJ0_indexOf_7cf53_12 rfl rfl ?_
  refine g_aload_n (pc' := 14) dJ0_indexOf_7cf53_13 rfl rfl ?_
  refine g_invVO (pc' := 17) (cs_length hok h93) dJ0_indexOf_7cf53_14 rfl rfl ml_J0_505 im_J0_length_8abf5 sl_J0_length_8abf5 in_J0 co_J0_length_8abf5 pd_J0_length_8abf5 rfl (by omega) (by decide) ⟨by decide, by decide⟩ (Nat.le_of_ble_eq_true rfl) ?_
  rintro _ _ ⟨rfl, rfl⟩ -
  refine g_invS (pc' := 20) (cs_ix3 hok hc) dJ0_indexOf_7cf53_17 rfl ml_J0_637 st_J1_indexOf_4cfef in_J1 co_J1_indexOf_4cfef pd_J1_indexOf_4cfef rfl (by omega) (by decide) ⟨by decide, by decide⟩ (Nat.le_of_ble_eq_true rfl) ?_
  rintro _ _ ⟨⟨v, rfl, hv⟩, rfl⟩ -
  refine g_goto (tgt := 36) dJ0_indexOf_7cf53_20 (by decide) ?_
  refine g_iret dJ0_indexOf_7cf53_36 rfl (by decide) (by decide) ?_
  exact ⟨⟨v, rfl, hv⟩, rfl⟩
set_option maxRecDepth 4000 in
theorem cs_ix {E : En} (hok : EOK E) {h : Hp} (h93 : h.2.2 (93, 0) = true) {c : Nat} (hc : 97 ≤ c ∧ c ≤ 122) : Call E m_J0_indexOf_0f7a4 3 0 0 [vR (92, 0), vI (nI c)] h (fun r h' => (∃ v : Int32, r = some (vI v) ∧ (v < 0 ↔ ¬ isLt c)) ∧ h = h') := by
  refine Call.enter hok (by decide) (Nat.le_of_ble_eq_true rfl) ?_
  show G E m_J0_indexOf_0f7a4 3 0 0 _ h 0 [some (vR (92, 0)), some (vI (nI c))] [] h 0 0
  refine g_aload_n (pc' := 1) dJ0_indexOf_0f7a4_0 rfl rfl ?_
  refine g_iload_n (pc' := 2) dJ0_indexOf_0f7a4_1 rfl rfl ?_
  refine g_iconstN (n := 0) (pc' := 3) dJ0_indexOf_0f7a4_2 rfl ?_
  refine g_invVO (pc' := 6) (cs_ix2 hok h93 hc) dJ0_indexOf_0f7a4_3 rfl rfl ml_J0_633 im_J0_indexOf_7cf53 sl_J0_indexOf_7cf53 in_J0 co_J0_indexOf_7cf53 pd_J0_indexOf_7cf53 rfl (by omega) (by decide) ⟨by decide, by decide⟩ (Nat.le_of_ble_eq_true rfl) ?_
  rintro _ _ ⟨⟨v, rfl, hv⟩, rfl⟩ -
  refine g_iret dJ0_indexOf_0f7a4_6 rfl (by decide) (by decide) ?_
  exact ⟨⟨v, rfl, hv⟩, rfl⟩
