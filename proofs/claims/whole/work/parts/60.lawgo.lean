theorem sub5 {L k : Nat} (hL : L ≤ 2560) (hk : k ≤ L) (h : ¬ nI L - 5 < nI k) : k + 5 ≤ L := by
  by_cases h5 : L < 5
  · exfalso
    have hn : nI L - 5 < 0 := by
      rcases (show L = 0 ∨ L = 1 ∨ L = 2 ∨ L = 3 ∨ L = 4 by omega) with rfl | rfl | rfl | rfl | rfl <;> decide
    exact h (Int32.lt_of_lt_of_le hn (nI_pos' (by omega)))
  · obtain ⟨j, rfl⟩ : ∃ j, L = j + 5 := ⟨L - 5, by omega⟩
    have e : nI (j + 5) - 5 = nI j := by
      rw [← nI_add]
      exact Int32.add_sub_cancel (nI j) (nI 5)
    rw [e] at h
    have := Nat.not_lt.mp (fun q => h (nI_lt q (by omega)))
    omega
set_option maxHeartbeats 4000000 in
set_option maxRecDepth 100000 in
theorem law_loop {p : Program} {l : Launch} {e : Env} {s : State} {m : MethodId} {below : List Frame} {meth : Method} {c : Code} {g : GG} {b L : Nat} {xs : Nat → Int32} (C : LC p s m meth c g b L xs) (hr : meth.sig.returnType = ret) (hlocks : meth.locks = false) :
    ∀ (n i : Nat), 5 * i ≤ L → L + 1 ≤ 5 * i + n → LG p l e s m below meth c (lw_Z below #[Value.ref b] s) g b i := by
  have hL : L ≤ 2560 := C.2.2.2.2.2.2
  have hbl := C.2.2.2.2.2.1
  have hX := C.2.2.2.2.1
  have hf := C.1
  have hx := hf.1
  have hb := hf.2.1
  intro n
  induction n with
  | zero =>
    intro i h1 h2
    exact absurd h2 (by omega)
  | succ n ih =>
    intro i hi hin
    intro pl lh ak t yt xt isk ltp lrw rc lac lsh lhh lhg lhr sht tl tf ta tk tg tp tm cnt stp z laws fogs arms kinds faiths places moved k0 k1 k2 k3 k4 k5 ytl ytf yta ytk ytg ytp ytm ycnt ystp yz ylaws yfogs yarms ykinds yfaiths yplaces ymoved xtl xtf xta xtk xtg xtp xtm xcnt xstp xz xlaws xfogs xarms xkinds xfaiths xplaces xmoved rows lby tsz tso tst ten an ap ab bg lbd bod shh shg byt shr oh os ok ol ord odd otp olt oat obg otk ovl orw oso osz oit oho ohe otr own_ opt mk mf mp mm vstp vlaws vz vcnt vfogs varms vk vf vp vm lr rr dd srt szs its hds hdo H locs hw hN hK hS hH hB ls hl
    refine lv_iload_n hx hb dL_law_18 rfl (lv_at hl 0 rfl) ?_
    refine lv_aload_n hx hb dL_law_19 rfl (lv_at hl 3 rfl) ?_
    refine va_slen hx hb hX hbl (Nat.not_le.mpr hbl) hw.2.2 dL_law_20 ?_
    refine lv_iconst (v := 5) hx hb dL_law_21 (by decide) ?_
    refine lv_isub hx hb dL_law_22 ?_
    refine lv_icmp_gt (tgt := 1671) hx hb dL_law_23 (by decide) (fun _ => ?_) (fun c_1 => ?_)
    · refine lv_iconst (v := 1) hx hb dL_law_1671 (by decide) ?_
      refine va_forget (fun q hq => hw.2.2.2.2 q hq) ?_
      refine W.widen (k := 600000) (n := 7302250) (by omega) (by omega) ?_
      exact lw_ret hx hb hr hlocks dL_law_1672
    · have h5 : 5 * i + 5 ≤ L := sub5 hL hi c_1
      have hnext : LG p l e s m below meth c (lw_Z below #[Value.ref b] s) g b (i + 1) := ih (i + 1) (by omega) (by omega)
      refine lv_aload_n hx hb dL_law_26 rfl (lv_at hl 3 rfl) ?_
      refine lv_iload_n hx hb dL_law_27 rfl (lv_at hl 0 rfl) ?_
      refine va_sld hx hb hX hbl (Nat.not_le.mpr hbl) hw.2.2 (vp_in_nI (by omega) (by omega)) dL_law_28 ?_
      refine lv_bipush (v := 63) hx hb dL_law_29 (by decide) ?_
      refine lv_iand hx hb dL_law_31 ?_
      refine lv_topi (fun x ex => ?_)
      by_cases c0 : x = 0
      · refine lv_tableIn (off := 196) (tgt := 228) hx hb dL_law_32 (by rw [c0]; decide) (by rw [c0]; decide) (by rw [c0]; rfl) (by decide) ?_
        exact lw_feed C h5 hnext hw hN hK hS hH hB hl
      by_cases c1 : x = 1
      · refine lv_tableIn (off := 259) (tgt := 291) hx hb dL_law_32 (by rw [c1]; decide) (by rw [c1]; decide) (by rw [c1]; rfl) (by decide) ?_
        exact lw_tunnel C h5 hnext hw hN hK hS hH hB hl
      by_cases c2 : x = 2
      · refine lv_tableIn (off := 272) (tgt := 304) hx hb dL_law_32 (by rw [c2]; decide) (by rw [c2]; decide) (by rw [c2]; rfl) (by decide) ?_
        exact lw_set C h5 hnext hw hN hK hS hH hB hl
      by_cases c3 : x = 3
      · refine lv_tableIn (off := 305) (tgt := 337) hx hb dL_law_32 (by rw [c3]; decide) (by rw [c3]; decide) (by rw [c3]; rfl) (by decide) ?_
        exact lw_lawOf C h5 hnext hw hN hK hS hH hB hl
      by_cases c4 : x = 4
      · refine lv_tableIn (off := 328) (tgt := 360) hx hb dL_law_32 (by rw [c4]; decide) (by rw [c4]; decide) (by rw [c4]; rfl) (by decide) ?_
        exact lw_roster C h5 hnext hw hN hK hS hH hB hl
      by_cases c5 : x = 5
      · refine lv_tableIn (off := 371) (tgt := 403) hx hb dL_law_32 (by rw [c5]; decide) (by rw [c5]; decide) (by rw [c5]; rfl) (by decide) ?_
        exact lw_rosterOf C h5 hnext hw hN hK hS hH hB hl
      by_cases c6 : x = 6
      · refine lv_tableIn (off := 404) (tgt := 436) hx hb dL_law_32 (by rw [c6]; decide) (by rw [c6]; decide) (by rw [c6]; rfl) (by decide) ?_
        exact lw_goer C h5 hnext hw hN hK hS hH hB hl
      by_cases c7 : x = 7
      · refine lv_tableIn (off := 447) (tgt := 479) hx hb dL_law_32 (by rw [c7]; decide) (by rw [c7]; decide) (by rw [c7]; rfl) (by decide) ?_
        exact lw_of C h5 hnext hw hN hK hS hH hB hl
      by_cases c8 : x = 8
      · refine lv_tableIn (off := 480) (tgt := 512) hx hb dL_law_32 (by rw [c8]; decide) (by rw [c8]; decide) (by rw [c8]; rfl) (by decide) ?_
        exact lw_does C h5 hnext hw hN hK hS hH hB hl
      by_cases c9 : x = 9
      · refine lv_tableIn (off := 513) (tgt := 545) hx hb dL_law_32 (by rw [c9]; decide) (by rw [c9]; decide) (by rw [c9]; rfl) (by decide) ?_
        exact lw_mind C h5 hnext hw hN hK hS hH hB hl
      by_cases c10 : x = 10
      · refine lv_tableIn (off := 546) (tgt := 578) hx hb dL_law_32 (by rw [c10]; decide) (by rw [c10]; decide) (by rw [c10]; rfl) (by decide) ?_
        exact lw_trust C h5 hnext hw hN hK hS hH hB hl
      by_cases c11 : x = 11
      · refine lv_tableIn (off := 579) (tgt := 611) hx hb dL_law_32 (by rw [c11]; decide) (by rw [c11]; decide) (by rw [c11]; rfl) (by decide) ?_
        exact lw_bring C h5 hnext hw hN hK hS hH hB hl
      by_cases c12 : x = 12
      · refine lv_tableIn (off := 612) (tgt := 644) hx hb dL_law_32 (by rw [c12]; decide) (by rw [c12]; decide) (by rw [c12]; rfl) (by decide) ?_
        exact lw_steps C h5 hnext hw hN hK hS hH hB hl
      by_cases c13 : x = 13
      · refine lv_tableIn (off := 635) (tgt := 667) hx hb dL_law_32 (by rw [c13]; decide) (by rw [c13]; decide) (by rw [c13]; rfl) (by decide) ?_
        exact lw_seed C h5 hnext hw hN hK hS hH hB hl
      by_cases c14 : x = 14
      · refine lv_tableIn (off := 658) (tgt := 690) hx hb dL_law_32 (by rw [c14]; decide) (by rw [c14]; decide) (by rw [c14]; rfl) (by decide) ?_
        exact lw_step C h5 hnext hw hN hK hS hH hB hl
      by_cases c15 : x = 15
      · refine lv_tableIn (off := 671) (tgt := 703) hx hb dL_law_32 (by rw [c15]; decide) (by rw [c15]; decide) (by rw [c15]; rfl) (by decide) ?_
        exact lw_luck C h5 hnext hw hN hK hS hH hB hl
      by_cases c16 : x = 16
      · refine lv_tableIn (off := 694) (tgt := 726) hx hb dL_law_32 (by rw [c16]; decide) (by rw [c16]; decide) (by rw [c16]; rfl) (by decide) ?_
        exact lw_state C h5 hnext hw hN hK hS hH hB hl
      by_cases c17 : x = 17
      · refine lv_tableIn (off := 717) (tgt := 749) hx hb dL_law_32 (by rw [c17]; decide) (by rw [c17]; decide) (by rw [c17]; rfl) (by decide) ?_
        exact lw_where C h5 hnext hw hN hK hS hH hB hl
      by_cases c18 : x = 18
      · refine lv_tableIn (off := 750) (tgt := 782) hx hb dL_law_32 (by rw [c18]; decide) (by rw [c18]; decide) (by rw [c18]; rfl) (by decide) ?_
        exact lw_comes C h5 hnext hw hN hK hS hH hB hl
      by_cases c19 : x = 19
      · refine lv_tableIn (off := 773) (tgt := 805) hx hb dL_law_32 (by rw [c19]; decide) (by rw [c19]; decide) (by rw [c19]; rfl) (by decide) ?_
        exact lw_sits C h5 hnext hw hN hK hS hH hB hl
      by_cases c20 : x = 20
      · refine lv_tableIn (off := 796) (tgt := 828) hx hb dL_law_32 (by rw [c20]; decide) (by rw [c20]; decide) (by rw [c20]; rfl) (by decide) ?_
        exact lw_back C h5 hnext hw hN hK hS hH hB hl
      by_cases c21 : x = 21
      · refine lv_tableIn (off := 819) (tgt := 851) hx hb dL_law_32 (by rw [c21]; decide) (by rw [c21]; decide) (by rw [c21]; rfl) (by decide) ?_
        exact lw_passed C h5 hnext hw hN hK hS hH hB hl
      by_cases c22 : x = 22
      · refine lv_tableIn (off := 842) (tgt := 874) hx hb dL_law_32 (by rw [c22]; decide) (by rw [c22]; decide) (by rw [c22]; rfl) (by decide) ?_
        exact lw_armsFor C h5 hnext hw hN hK hS hH hB hl
      by_cases c23 : x = 23
      · refine lv_tableIn (off := 875) (tgt := 907) hx hb dL_law_32 (by rw [c23]; decide) (by rw [c23]; decide) (by rw [c23]; rfl) (by decide) ?_
        exact lw_fogFor C h5 hnext hw hN hK hS hH hB hl
      by_cases c24 : x = 24
      · refine lv_tableIn (off := 918) (tgt := 950) hx hb dL_law_32 (by rw [c24]; decide) (by rw [c24]; decide) (by rw [c24]; rfl) (by decide) ?_
        exact lw_faithFor C h5 hnext hw hN hK hS hH hB hl
      by_cases c25 : x = 25
      · refine lv_tableIn (off := 951) (tgt := 983) hx hb dL_law_32 (by rw [c25]; decide) (by rw [c25]; decide) (by rw [c25]; rfl) (by decide) ?_
        exact lw_kindFor C h5 hnext hw hN hK hS hH hB hl
      by_cases c26 : x = 26
      · refine lv_tableIn (off := 974) (tgt := 1006) hx hb dL_law_32 (by rw [c26]; decide) (by rw [c26]; decide) (by rw [c26]; rfl) (by decide) ?_
        exact lw_liftedFor C h5 hnext hw hN hK hS hH hB hl
      by_cases c27 : x = 27
      · refine lv_tableIn (off := 1007) (tgt := 1039) hx hb dL_law_32 (by rw [c27]; decide) (by rw [c27]; decide) (by rw [c27]; rfl) (by decide) ?_
        exact lw_fits C h5 hnext hw hN hK hS hH hB hl
      by_cases c28 : x = 28
      · refine lv_tableIn (off := 1050) (tgt := 1082) hx hb dL_law_32 (by rw [c28]; decide) (by rw [c28]; decide) (by rw [c28]; rfl) (by decide) ?_
        exact lw_odds C h5 hnext hw hN hK hS hH hB hl
      by_cases c29 : x = 29
      · refine lv_tableIn (off := 1094) (tgt := 1126) hx hb dL_law_32 (by rw [c29]; decide) (by rw [c29]; decide) (by rw [c29]; rfl) (by decide) ?_
        exact lw_hope C h5 hnext hw hN hK hS hH hB hl
      by_cases c30 : x = 30
      · refine lv_tableIn (off := 1128) (tgt := 1160) hx hb dL_law_32 (by rw [c30]; decide) (by rw [c30]; decide) (by rw [c30]; rfl) (by decide) ?_
        exact lw_prove C h5 hnext hw hN hK hS hH hB hl
      by_cases c31 : x = 31
      · refine lv_tableIn (off := 1161) (tgt := 1193) hx hb dL_law_32 (by rw [c31]; decide) (by rw [c31]; decide) (by rw [c31]; rfl) (by decide) ?_
        exact lw_row C h5 hnext hw hN hK hS hH hB hl
      by_cases c32 : x = 32
      · refine lv_tableIn (off := 1194) (tgt := 1226) hx hb dL_law_32 (by rw [c32]; decide) (by rw [c32]; decide) (by rw [c32]; rfl) (by decide) ?_
        exact lw_alterRow C h5 hnext hw hN hK hS hH hB hl
      by_cases c33 : x = 33
      · refine lv_tableIn (off := 1237) (tgt := 1269) hx hb dL_law_32 (by rw [c33]; decide) (by rw [c33]; decide) (by rw [c33]; rfl) (by decide) ?_
        exact lw_judge C h5 hnext hw hN hK hS hH hB hl
      by_cases c34 : x = 34
      · refine lv_tableIn (off := 1260) (tgt := 1292) hx hb dL_law_32 (by rw [c34]; decide) (by rw [c34]; decide) (by rw [c34]; rfl) (by decide) ?_
        exact lw_minds C h5 hnext hw hN hK hS hH hB hl
      by_cases c35 : x = 35
      · refine lv_tableIn (off := 1313) (tgt := 1345) hx hb dL_law_32 (by rw [c35]; decide) (by rw [c35]; decide) (by rw [c35]; rfl) (by decide) ?_
        exact lw_sheet C h5 hnext hw hN hK hS hH hB hl
      by_cases c36 : x = 36
      · refine lv_tableIn (off := 1356) (tgt := 1388) hx hb dL_law_32 (by rw [c36]; decide) (by rw [c36]; decide) (by rw [c36]; rfl) (by decide) ?_
        exact lw_put C h5 hnext hw hN hK hS hH hB hl
      by_cases c37 : x = 37
      · refine lv_tableIn (off := 1399) (tgt := 1431) hx hb dL_law_32 (by rw [c37]; decide) (by rw [c37]; decide) (by rw [c37]; rfl) (by decide) ?_
        exact lw_item C h5 hnext hw hN hK hS hH hB hl
      by_cases c38 : x = 38
      · refine lv_tableIn (off := 1442) (tgt := 1474) hx hb dL_law_32 (by rw [c38]; decide) (by rw [c38]; decide) (by rw [c38]; rfl) (by decide) ?_
        exact lw_shelf C h5 hnext hw hN hK hS hH hB hl
      by_cases c39 : x = 39
      · refine lv_tableIn (off := 1485) (tgt := 1517) hx hb dL_law_32 (by rw [c39]; decide) (by rw [c39]; decide) (by rw [c39]; rfl) (by decide) ?_
        exact lw_taken C h5 hnext hw hN hK hS hH hB hl
      by_cases c40 : x = 40
      · refine lv_tableIn (off := 1518) (tgt := 1550) hx hb dL_law_32 (by rw [c40]; decide) (by rw [c40]; decide) (by rw [c40]; rfl) (by decide) ?_
        exact lw_act C h5 hnext hw hN hK hS hH hB hl
      by_cases c41 : x = 41
      · refine lv_tableIn (off := 1561) (tgt := 1593) hx hb dL_law_32 (by rw [c41]; decide) (by rw [c41]; decide) (by rw [c41]; rfl) (by decide) ?_
        exact lw_trace C h5 hnext hw hN hK hS hH hB hl
      by_cases c42 : x = 42
      · refine lv_tableIn (off := 1584) (tgt := 1616) hx hb dL_law_32 (by rw [c42]; decide) (by rw [c42]; decide) (by rw [c42]; rfl) (by decide) ?_
        exact lw_many C h5 hnext hw hN hK hS hH hB hl
      by_cases c43 : x = 43
      · refine lv_tableIn (off := 1607) (tgt := 1639) hx hb dL_law_32 (by rw [c43]; decide) (by rw [c43]; decide) (by rw [c43]; rfl) (by decide) ?_
        exact lw_keep C h5 hnext hw hN hK hS hH hB hl
      by_cases c44 : x = 44
      · refine lv_tableIn (off := 1620) (tgt := 1652) hx hb dL_law_32 (by rw [c44]; decide) (by rw [c44]; decide) (by rw [c44]; rfl) (by decide) ?_
        exact lw_again C h5 hnext hw hN hK hS hH hB hl
      refine lv_tableOut (tgt := 1665) hx hb dL_law_32 (sw_o2 0 44 [0, 1, 2, 3, 4, 5, 6, 7, 8, 9, 10, 11, 12, 13, 14, 15, 16, 17, 18, 19, 20, 21, 22, 23, 24, 25, 26, 27, 28, 29, 30, 31, 32, 33, 34, 35, 36, 37, 38, 39, 40, 41, 42, 43, 44] (by decide) (by decide) (by simp only [List.mem_cons, List.not_mem_nil, or_false, not_or]; exact ⟨c0, c1, c2, c3, c4, c5, c6, c7, c8, c9, c10, c11, c12, c13, c14, c15, c16, c17, c18, c19, c20, c21, c22, c23, c24, c25, c26, c27, c28, c29, c30, c31, c32, c33, c34, c35, c36, c37, c38, c39, c40, c41, c42, c43, c44⟩)) (by decide) ?_
      refine lfin C hl (fun ls hl => ?_)
      refine W.widen (k := 100 + 2 * (i + 1)) (n := 2000 + 42 * (i + 1)) (by omega) (by omega) ?_
      exact hnext hw hN.up hK.up hS hH hB hl
set_option maxHeartbeats 4000000 in
set_option maxRecDepth 100000 in
theorem whole_start {p : Program} {e : Env} {s : State} {m : MethodId} {below : List Frame} {meth : Method} {c : Code} (l : Launch) {b L : Nat} {xs : Nat → Int32} (hL : L ≤ 2560) (C0 : lw_At p s m meth c b L xs) : W p l e room_1 s m #[Value.ref b] below meth c s.heap [] 0 0 (lw_Z below #[Value.ref b] s) (entryFrame m ([Value.ref b] : List Value).toArray 4) := by
  obtain ⟨g, C⟩ := law_at hL C0
  obtain ⟨-, -, hr, -, -, -, -, -, hlocks, -⟩ := C0
  have hf := C.1
  have hk := C.2.1
  have hkN := C.2.2.1
  have hst := C.2.2.2.1
  have hx := hf.1
  have hb := hf.2.1
  have hts := hf.2.2.2.2
  have hA : ∀ q : Nat, s.heap.size ≤ q → (fun q : Nat => s.heap.size ≤ q) q := fun _ h => h
  have hw : hv g (fun q : Nat => s.heap.size ≤ q) s s.heap [] [] := ⟨fun k q h => by simp at h, ⟨fun i j p q h => by simp at h, fun k q h => by simp at h⟩, va_S.rf⟩
  have hl := lv_entry ([.ref b]) (n := 4) (Nat.le_of_ble_eq_true rfl)
  rw [lg_entry_eq]
  generalize (lg_sl ([.ref b]) ++ List.replicate (4 - (lg_sl ([.ref b])).length) Slot.unset).toArray = ls at hl ⊢
  have hl : lv_has ls 4 [(0, .ref b)] := hl
  have hinX10 : ∀ w ∈ u_ws RX10 TX10 13, w ∈ wsL_law := fun w h => lwB_in w (List.mem_flatten.mpr ⟨_, List.mem_of_getElem? (i := 52) rfl, h⟩)
  have w_0 : Cond.classLink RL 7 RX10 ∈ wsL_law := List.mem_of_getElem? (i := 0) rfl
  have w_1 : Cond.instantiable RX10 13 ∈ wsL_law := List.mem_of_getElem? (i := 1) rfl
  have w_2 : Cond.initialized RX10 ∈ wsL_law := List.mem_of_getElem? (i := 2) rfl
  have w_3 : Cond.methodLink RL 9 yX10_init ∈ wsL_law := List.mem_of_getElem? (i := 7) rfl
  have w_4 : Cond.instanceMethod yX10_init ∈ wsL_law := List.mem_of_getElem? (i := 8) rfl
  have hinX11 : ∀ w ∈ u_ws RX11 TX11 24, w ∈ wsL_law := fun w h => lwB_in w (List.mem_flatten.mpr ⟨_, List.mem_of_getElem? (i := 53) rfl, h⟩)
  have w_5 : Cond.classLink RL 10 RX11 ∈ wsL_law := List.mem_of_getElem? (i := 3) rfl
  have w_6 : Cond.instantiable RX11 24 ∈ wsL_law := List.mem_of_getElem? (i := 4) rfl
  have w_7 : Cond.initialized RX11 ∈ wsL_law := List.mem_of_getElem? (i := 5) rfl
  have w_8 : Cond.methodLink RL 12 yX11_init ∈ wsL_law := List.mem_of_getElem? (i := 104) rfl
  have w_9 : Cond.instanceMethod yX11_init ∈ wsL_law := List.mem_of_getElem? (i := 105) rfl
  refine rn (ci := 10) (fs := [.null, .null, .null, .null, .int 0, .null, .null, .int 0, .null, .null, .null, .null, .null]) hf hk hw hA hinX10 tyX10 tyX10_ok w_0 w_1 w_2 rfl (fun j hj => by rcases (show j = 0 ∨ j = 1 ∨ j = 2 ∨ j = 3 ∨ j = 4 ∨ j = 5 ∨ j = 6 ∨ j = 7 ∨ j = 8 ∨ j = 9 ∨ j = 10 ∨ j = 11 ∨ j = 12 by omega) with rfl | rfl | rfl | rfl | rfl | rfl | rfl | rfl | rfl | rfl | rfl | rfl | rfl <;> rfl) (Nat.le_of_ble_eq_true rfl) (Nat.le_of_ble_eq_true rfl) dL_law_0 (W' := fun q => [cob q 10 [.null, .null, .null, .null, .int 0, .null, .null, .int 0, .null, .null, .null, .null, .null]]) (fun q => rfl) (fun n_1 H hw => ?_)
  refine lv_dup hx hb dL_law_3 rfl ?_
  refine mcI (wr := []) hf hk hkN hst hw hA (c_X10_init l g n_1 _) (cwI 0 hts gL_law_X10_init rfl rfl rfl (hts _ w_2) (hts _ w_3) (hts _ w_4) rfl (by decide +kernel) ⟨Nat.le_of_ble_eq_true rfl, Nat.le_of_ble_eq_true rfl⟩) [0] [] rfl rfl rfl rfl (by decide) rfl hl.1 rfl (Nat.le_of_ble_eq_true rfl) dL_law_4 ⟨Nat.le_of_ble_eq_true rfl, Nat.le_of_ble_eq_true rfl⟩ (fun rv ws2 hPo H locs hw => ?_)
  obtain ⟨rfl, u2_ak, u2_k0, u2_k1, u2_k2, u2_k3, u2_k4, u2_k5, u2_t, u2_tl, u2_tf, u2_ta, u2_tk, u2_tg, u2_tp, u2_tm, u2_yt, u2_ytl, u2_ytf, u2_yta, u2_ytk, u2_ytg, u2_ytp, u2_ytm, u2_xt, u2_xtl, u2_xtf, u2_xta, u2_xtk, u2_xtg, u2_xtp, u2_xtm, u2_ltp, u2_lby, u2_lrw, u2_lac, u2_lbd, u2_lsh, u2_lhh, u2_lhg, u2_lhr, rfl⟩ := hPo
  have hw : hv g (fun q => s.heap.size ≤ q) s H locs [cob n_1 10 [.ref u2_ak, .ref u2_t, .ref u2_yt, .ref u2_xt, .int 0, .ref u2_ltp, .ref u2_lrw, .int 0, .ref u2_lac, .ref u2_lsh, .ref u2_lhh, .ref u2_lhg, .ref u2_lhr], ckd g u2_ak 6 (kdf u2_k0 u2_k1 u2_k2 u2_k3 u2_k4 u2_k5), cob u2_k0 4 [], cob u2_k1 2 [], cob u2_k2 5 [], cob u2_k3 6 [], cob u2_k4 9 [], cob u2_k5 1 [], cob u2_t 8 [.ref u2_ak, .ref u2_tl, .ref u2_tf, .ref u2_ta, .ref u2_tk, .ref u2_tg, .ref u2_tp, .ref u2_tm, .int 0, .int 0, .int 1], cin g u2_tl 4 tq_first, cin g u2_tf 6 (fun _ => 2), cin g u2_ta 6 (fun _ => 4), cin g u2_tk 8 (fun _ => 0), cin g u2_tg 8 (fun _ => 0), cin g u2_tp 8 (fun _ => 0), cin g u2_tm 8 (fun _ => 0), cob u2_yt 8 [.ref u2_ak, .ref u2_ytl, .ref u2_ytf, .ref u2_yta, .ref u2_ytk, .ref u2_ytg, .ref u2_ytp, .ref u2_ytm, .int 0, .int 0, .int 1], cin g u2_ytl 4 tq_first, cin g u2_ytf 6 (fun _ => 2), cin g u2_yta 6 (fun _ => 4), cin g u2_ytk 8 (fun _ => 0), cin g u2_ytg 8 (fun _ => 0), cin g u2_ytp 8 (fun _ => 0), cin g u2_ytm 8 (fun _ => 0), cob u2_xt 8 [.ref u2_ak, .ref u2_xtl, .ref u2_xtf, .ref u2_xta, .ref u2_xtk, .ref u2_xtg, .ref u2_xtp, .ref u2_xtm, .int 0, .int 0, .int 1], cin g u2_xtl 4 tq_first, cin g u2_xtf 6 (fun _ => 2), cin g u2_xta 6 (fun _ => 4), cin g u2_xtk 8 (fun _ => 0), cin g u2_xtg 8 (fun _ => 0), cin g u2_xtp 8 (fun _ => 0), cin g u2_xtm 8 (fun _ => 0), cob u2_ltp 7 [.ref u2_lby, .int 0, .int 0, .int 0, .int 0], cby g u2_lby 200 (fun _ => 0), cin g u2_lrw 30 (fun _ => 0), cob u2_lac 0 [.int 0, .int 0, .int 0, .int 0, .ref u2_lbd], cin g u2_lbd 30 (fun _ => 0), cit g u2_lsh 4 (fun _ => none), cin g u2_lhh 4 (fun _ => 2), cin g u2_lhg 4 (fun _ => 0), cit g u2_lhr 4 (fun _ => none)] := hw
  refine lv_astore_n (lv' := [(1, .ref n_1), (0, .ref b)]) hx hb dL_law_7 rfl hl (by decide) rfl (fun ls hl => ?_)
  refine rn (ci := 11) (fs := [.null, .null, .null, .null, .int 0, .null, .null, .int 0, .null, .int 0, .int 0, .int 0, .int 0, .null, .int 0, .null, .null, .null, .null, .null, .null, .int 0, .int 0, .int 0]) hf hk hw hA hinX11 tyX11 tyX11_ok w_5 w_6 w_7 rfl (fun j hj => by rcases (show j = 0 ∨ j = 1 ∨ j = 2 ∨ j = 3 ∨ j = 4 ∨ j = 5 ∨ j = 6 ∨ j = 7 ∨ j = 8 ∨ j = 9 ∨ j = 10 ∨ j = 11 ∨ j = 12 ∨ j = 13 ∨ j = 14 ∨ j = 15 ∨ j = 16 ∨ j = 17 ∨ j = 18 ∨ j = 19 ∨ j = 20 ∨ j = 21 ∨ j = 22 ∨ j = 23 by omega) with rfl | rfl | rfl | rfl | rfl | rfl | rfl | rfl | rfl | rfl | rfl | rfl | rfl | rfl | rfl | rfl | rfl | rfl | rfl | rfl | rfl | rfl | rfl | rfl <;> rfl) (Nat.le_of_ble_eq_true rfl) (Nat.le_of_ble_eq_true rfl) dL_law_8 (W' := fun q => [cob n_1 10 [.ref u2_ak, .ref u2_t, .ref u2_yt, .ref u2_xt, .int 0, .ref u2_ltp, .ref u2_lrw, .int 0, .ref u2_lac, .ref u2_lsh, .ref u2_lhh, .ref u2_lhg, .ref u2_lhr], ckd g u2_ak 6 (kdf u2_k0 u2_k1 u2_k2 u2_k3 u2_k4 u2_k5), cob u2_k0 4 [], cob u2_k1 2 [], cob u2_k2 5 [], cob u2_k3 6 [], cob u2_k4 9 [], cob u2_k5 1 [], cob u2_t 8 [.ref u2_ak, .ref u2_tl, .ref u2_tf, .ref u2_ta, .ref u2_tk, .ref u2_tg, .ref u2_tp, .ref u2_tm, .int 0, .int 0, .int 1], cin g u2_tl 4 tq_first, cin g u2_tf 6 (fun _ => 2), cin g u2_ta 6 (fun _ => 4), cin g u2_tk 8 (fun _ => 0), cin g u2_tg 8 (fun _ => 0), cin g u2_tp 8 (fun _ => 0), cin g u2_tm 8 (fun _ => 0), cob u2_yt 8 [.ref u2_ak, .ref u2_ytl, .ref u2_ytf, .ref u2_yta, .ref u2_ytk, .ref u2_ytg, .ref u2_ytp, .ref u2_ytm, .int 0, .int 0, .int 1], cin g u2_ytl 4 tq_first, cin g u2_ytf 6 (fun _ => 2), cin g u2_yta 6 (fun _ => 4), cin g u2_ytk 8 (fun _ => 0), cin g u2_ytg 8 (fun _ => 0), cin g u2_ytp 8 (fun _ => 0), cin g u2_ytm 8 (fun _ => 0), cob u2_xt 8 [.ref u2_ak, .ref u2_xtl, .ref u2_xtf, .ref u2_xta, .ref u2_xtk, .ref u2_xtg, .ref u2_xtp, .ref u2_xtm, .int 0, .int 0, .int 1], cin g u2_xtl 4 tq_first, cin g u2_xtf 6 (fun _ => 2), cin g u2_xta 6 (fun _ => 4), cin g u2_xtk 8 (fun _ => 0), cin g u2_xtg 8 (fun _ => 0), cin g u2_xtp 8 (fun _ => 0), cin g u2_xtm 8 (fun _ => 0), cob u2_ltp 7 [.ref u2_lby, .int 0, .int 0, .int 0, .int 0], cby g u2_lby 200 (fun _ => 0), cin g u2_lrw 30 (fun _ => 0), cob u2_lac 0 [.int 0, .int 0, .int 0, .int 0, .ref u2_lbd], cin g u2_lbd 30 (fun _ => 0), cit g u2_lsh 4 (fun _ => none), cin g u2_lhh 4 (fun _ => 2), cin g u2_lhg 4 (fun _ => 0), cit g u2_lhr 4 (fun _ => none), cob q 11 [.null, .null, .null, .null, .int 0, .null, .null, .int 0, .null, .int 0, .int 0, .int 0, .int 0, .null, .int 0, .null, .null, .null, .null, .null, .null, .int 0, .int 0, .int 0]]) (fun q => rfl) (fun n_3 H hw => ?_)
  refine lv_dup hx hb dL_law_11 rfl ?_
  refine mcI (wr := [cob n_1 10 [.ref u2_ak, .ref u2_t, .ref u2_yt, .ref u2_xt, .int 0, .ref u2_ltp, .ref u2_lrw, .int 0, .ref u2_lac, .ref u2_lsh, .ref u2_lhh, .ref u2_lhg, .ref u2_lhr], ckd g u2_ak 6 (kdf u2_k0 u2_k1 u2_k2 u2_k3 u2_k4 u2_k5), cob u2_k0 4 [], cob u2_k1 2 [], cob u2_k2 5 [], cob u2_k3 6 [], cob u2_k4 9 [], cob u2_k5 1 [], cob u2_t 8 [.ref u2_ak, .ref u2_tl, .ref u2_tf, .ref u2_ta, .ref u2_tk, .ref u2_tg, .ref u2_tp, .ref u2_tm, .int 0, .int 0, .int 1], cin g u2_tl 4 tq_first, cin g u2_tf 6 (fun _ => 2), cin g u2_ta 6 (fun _ => 4), cin g u2_tk 8 (fun _ => 0), cin g u2_tg 8 (fun _ => 0), cin g u2_tp 8 (fun _ => 0), cin g u2_tm 8 (fun _ => 0), cob u2_yt 8 [.ref u2_ak, .ref u2_ytl, .ref u2_ytf, .ref u2_yta, .ref u2_ytk, .ref u2_ytg, .ref u2_ytp, .ref u2_ytm, .int 0, .int 0, .int 1], cin g u2_ytl 4 tq_first, cin g u2_ytf 6 (fun _ => 2), cin g u2_yta 6 (fun _ => 4), cin g u2_ytk 8 (fun _ => 0), cin g u2_ytg 8 (fun _ => 0), cin g u2_ytp 8 (fun _ => 0), cin g u2_ytm 8 (fun _ => 0), cob u2_xt 8 [.ref u2_ak, .ref u2_xtl, .ref u2_xtf, .ref u2_xta, .ref u2_xtk, .ref u2_xtg, .ref u2_xtp, .ref u2_xtm, .int 0, .int 0, .int 1], cin g u2_xtl 4 tq_first, cin g u2_xtf 6 (fun _ => 2), cin g u2_xta 6 (fun _ => 4), cin g u2_xtk 8 (fun _ => 0), cin g u2_xtg 8 (fun _ => 0), cin g u2_xtp 8 (fun _ => 0), cin g u2_xtm 8 (fun _ => 0), cob u2_ltp 7 [.ref u2_lby, .int 0, .int 0, .int 0, .int 0], cby g u2_lby 200 (fun _ => 0), cin g u2_lrw 30 (fun _ => 0), cob u2_lac 0 [.int 0, .int 0, .int 0, .int 0, .ref u2_lbd], cin g u2_lbd 30 (fun _ => 0), cit g u2_lsh 4 (fun _ => none), cin g u2_lhh 4 (fun _ => 2), cin g u2_lhg 4 (fun _ => 0), cit g u2_lhr 4 (fun _ => none)]) hf hk hkN hst hw hA (c_X11_init l g n_3 _) (cwI 0 hts gL_law_X11_init rfl rfl rfl (hts _ w_7) (hts _ w_8) (hts _ w_9) rfl (by decide +kernel) ⟨Nat.le_of_ble_eq_true rfl, Nat.le_of_ble_eq_true rfl⟩) [41] [0, 1, 2, 3, 4, 5, 6, 7, 8, 9, 10, 11, 12, 13, 14, 15, 16, 17, 18, 19, 20, 21, 22, 23, 24, 25, 26, 27, 28, 29, 30, 31, 32, 33, 34, 35, 36, 37, 38, 39, 40] rfl rfl rfl rfl (by decide) rfl hl.1 rfl (Nat.le_of_ble_eq_true rfl) dL_law_12 ⟨Nat.le_of_ble_eq_true rfl, Nat.le_of_ble_eq_true rfl⟩ (fun rv ws2 hPo H locs hw => ?_)
  obtain ⟨rfl, u4_os, u4_ok, u4_ol, u4_ord, u4_odd, u4_otp, u4_olt, u4_orw, u4_oso, u4_osz, u4_oit, u4_oho, u4_ohe, u4_otr, rfl⟩ := hPo
  have hw : hv g (fun q => s.heap.size ≤ q) s H locs [cob n_1 10 [.ref u2_ak, .ref u2_t, .ref u2_yt, .ref u2_xt, .int 0, .ref u2_ltp, .ref u2_lrw, .int 0, .ref u2_lac, .ref u2_lsh, .ref u2_lhh, .ref u2_lhg, .ref u2_lhr], ckd g u2_ak 6 (kdf u2_k0 u2_k1 u2_k2 u2_k3 u2_k4 u2_k5), cob u2_k0 4 [], cob u2_k1 2 [], cob u2_k2 5 [], cob u2_k3 6 [], cob u2_k4 9 [], cob u2_k5 1 [], cob u2_t 8 [.ref u2_ak, .ref u2_tl, .ref u2_tf, .ref u2_ta, .ref u2_tk, .ref u2_tg, .ref u2_tp, .ref u2_tm, .int 0, .int 0, .int 1], cin g u2_tl 4 tq_first, cin g u2_tf 6 (fun _ => 2), cin g u2_ta 6 (fun _ => 4), cin g u2_tk 8 (fun _ => 0), cin g u2_tg 8 (fun _ => 0), cin g u2_tp 8 (fun _ => 0), cin g u2_tm 8 (fun _ => 0), cob u2_yt 8 [.ref u2_ak, .ref u2_ytl, .ref u2_ytf, .ref u2_yta, .ref u2_ytk, .ref u2_ytg, .ref u2_ytp, .ref u2_ytm, .int 0, .int 0, .int 1], cin g u2_ytl 4 tq_first, cin g u2_ytf 6 (fun _ => 2), cin g u2_yta 6 (fun _ => 4), cin g u2_ytk 8 (fun _ => 0), cin g u2_ytg 8 (fun _ => 0), cin g u2_ytp 8 (fun _ => 0), cin g u2_ytm 8 (fun _ => 0), cob u2_xt 8 [.ref u2_ak, .ref u2_xtl, .ref u2_xtf, .ref u2_xta, .ref u2_xtk, .ref u2_xtg, .ref u2_xtp, .ref u2_xtm, .int 0, .int 0, .int 1], cin g u2_xtl 4 tq_first, cin g u2_xtf 6 (fun _ => 2), cin g u2_xta 6 (fun _ => 4), cin g u2_xtk 8 (fun _ => 0), cin g u2_xtg 8 (fun _ => 0), cin g u2_xtp 8 (fun _ => 0), cin g u2_xtm 8 (fun _ => 0), cob u2_ltp 7 [.ref u2_lby, .int 0, .int 0, .int 0, .int 0], cby g u2_lby 200 (fun _ => 0), cin g u2_lrw 30 (fun _ => 0), cob u2_lac 0 [.int 0, .int 0, .int 0, .int 0, .ref u2_lbd], cin g u2_lbd 30 (fun _ => 0), cit g u2_lsh 4 (fun _ => none), cin g u2_lhh 4 (fun _ => 2), cin g u2_lhg 4 (fun _ => 0), cit g u2_lhr 4 (fun _ => none), cob n_3 11 [.ref u4_os, .ref u4_ok, .ref u4_ol, .ref u4_ord, .int 0, .ref u4_odd, .ref u4_otp, .int 0, .ref u4_olt, .int 0, .int 0, .int 0, .int 0, .ref u4_orw, .int 0, .ref u4_oso, .ref u4_osz, .ref u4_oit, .ref u4_oho, .ref u4_ohe, .ref u4_otr, .int 0, .int 0, .int 0], cin g u4_os 51 (mR 0 tq_first 1 0 (fun _ => 2) (fun _ => 4) (fun _ => 0) (fun _ => 0) (fun _ => 0) (fun _ => 0)), cin g u4_ok 51 (fun _ => 0), cin g u4_ol 51 (fun _ => 0), cin g u4_ord 51 (fun _ => 0), cin g u4_odd 8 (fun _ => 0), cin g u4_otp 200 (fun _ => 0), cch g u4_olt 120 mlet, cin g u4_orw 30 (fun _ => 0), cin g u4_oso 4 (fun _ => -1), cin g u4_osz 4 (fun _ => 0), cin g u4_oit 160 (fun _ => 0), cin g u4_oho 4 (fun _ => -1), cin g u4_ohe 4 (fun _ => 0), cin g u4_otr 30 (fun _ => 0)] := hw
  refine lv_astore_n (lv' := [(2, .ref n_3), (1, .ref n_1), (0, .ref b)]) hx hb dL_law_15 rfl hl (by decide) rfl (fun ls hl => ?_)
  refine lv_iconst (v := 0) hx hb dL_law_16 (by decide) ?_
  refine lv_istore_n (lv' := [(3, .int 0), (2, .ref n_3), (1, .ref n_1), (0, .ref b)]) hx hb dL_law_17 rfl hl (by decide) rfl (fun ls hl => ?_)
  have hw := hv_pick (ws := [cob n_1 10 [.ref u2_ak, .ref u2_t, .ref u2_yt, .ref u2_xt, .int 0, .ref u2_ltp, .ref u2_lrw, .int 0, .ref u2_lac, .ref u2_lsh, .ref u2_lhh, .ref u2_lhg, .ref u2_lhr], cit g u2_lsh 4 (fun _ => none), cob u2_t 8 [.ref u2_ak, .ref u2_tl, .ref u2_tf, .ref u2_ta, .ref u2_tk, .ref u2_tg, .ref u2_tp, .ref u2_tm, .int 0, .int 0, .int 1], cin g u2_tl 4 tq_first, cin g u2_tf 6 (fun _ => 2), cin g u2_ta 6 (fun _ => 4), cin g u2_tk 8 (fun _ => 0), cin g u2_tg 8 (fun _ => 0), cin g u2_tp 8 (fun _ => 0), cin g u2_tm 8 (fun _ => 0), ckd g u2_ak 6 (kdf u2_k0 u2_k1 u2_k2 u2_k3 u2_k4 u2_k5), cob u2_k0 4 [], cob u2_k1 2 [], cob u2_k2 5 [], cob u2_k3 6 [], cob u2_k4 9 [], cob u2_k5 1 [], cob u2_yt 8 [.ref u2_ak, .ref u2_ytl, .ref u2_ytf, .ref u2_yta, .ref u2_ytk, .ref u2_ytg, .ref u2_ytp, .ref u2_ytm, .int 0, .int 0, .int 1], cin g u2_ytl 4 tq_first, cin g u2_ytf 6 (fun _ => 2), cin g u2_yta 6 (fun _ => 4), cin g u2_ytk 8 (fun _ => 0), cin g u2_ytg 8 (fun _ => 0), cin g u2_ytp 8 (fun _ => 0), cin g u2_ytm 8 (fun _ => 0), cob u2_xt 8 [.ref u2_ak, .ref u2_xtl, .ref u2_xtf, .ref u2_xta, .ref u2_xtk, .ref u2_xtg, .ref u2_xtp, .ref u2_xtm, .int 0, .int 0, .int 1], cin g u2_xtl 4 tq_first, cin g u2_xtf 6 (fun _ => 2), cin g u2_xta 6 (fun _ => 4), cin g u2_xtk 8 (fun _ => 0), cin g u2_xtg 8 (fun _ => 0), cin g u2_xtp 8 (fun _ => 0), cin g u2_xtm 8 (fun _ => 0), cin g u2_lrw 30 (fun _ => 0), cob u2_ltp 7 [.ref u2_lby, .int 0, .int 0, .int 0, .int 0], cob u2_lac 0 [.int 0, .int 0, .int 0, .int 0, .ref u2_lbd], cin g u2_lbd 30 (fun _ => 0), cin g u2_lhh 4 (fun _ => 2), cin g u2_lhg 4 (fun _ => 0), cby g u2_lby 200 (fun _ => 0), cit g u2_lhr 4 (fun _ => none), cob n_3 11 [.ref u4_os, .ref u4_ok, .ref u4_ol, .ref u4_ord, .int 0, .ref u4_odd, .ref u4_otp, .int 0, .ref u4_olt, .int 0, .int 0, .int 0, .int 0, .ref u4_orw, .int 0, .ref u4_oso, .ref u4_osz, .ref u4_oit, .ref u4_oho, .ref u4_ohe, .ref u4_otr, .int 0, .int 0, .int 0], cin g u4_os 51 (mR 0 tq_first 1 0 (fun _ => 2) (fun _ => 4) (fun _ => 0) (fun _ => 0) (fun _ => 0) (fun _ => 0)), cin g u4_ok 51 (fun _ => 0), cin g u4_ol 51 (fun _ => 0), cin g u4_ord 51 (fun _ => 0), cin g u4_odd 8 (fun _ => 0), cin g u4_otp 200 (fun _ => 0), cch g u4_olt 120 mlet, cin g u4_orw 30 (fun _ => 0), cin g u4_oso 4 (fun _ => -1), cin g u4_osz 4 (fun _ => 0), cin g u4_oit 160 (fun _ => 0), cin g u4_oho 4 (fun _ => -1), cin g u4_ohe 4 (fun _ => 0), cin g u4_otr 30 (fun _ => 0)]) hw [0, 37, 8, 9, 10, 11, 12, 13, 14, 15, 1, 2, 3, 4, 5, 6, 7, 16, 17, 18, 19, 20, 21, 22, 23, 24, 25, 26, 27, 28, 29, 30, 31, 34, 32, 35, 36, 38, 39, 33, 40, 41, 42, 43, 44, 45, 46, 47, 48, 49, 50, 51, 52, 53, 54, 55] rfl rfl
  have hw := hv_ext hw 43 (f' := mR 0 (fun _ => (0 : Int32)) 0 0 (fun _ => (0 : Int32)) (fun _ => (0 : Int32)) (fun _ => (0 : Int32)) (fun _ => (0 : Int32)) (fun _ => (0 : Int32)) (fun _ => (0 : Int32))) rfl (fun j hj => congrFun mR_zero j) (W' := [cob n_1 10 [.ref u2_ak, .ref u2_t, .ref u2_yt, .ref u2_xt, .int 0, .ref u2_ltp, .ref u2_lrw, .int 0, .ref u2_lac, .ref u2_lsh, .ref u2_lhh, .ref u2_lhg, .ref u2_lhr], cit g u2_lsh 4 (fun _ => none), cob u2_t 8 [.ref u2_ak, .ref u2_tl, .ref u2_tf, .ref u2_ta, .ref u2_tk, .ref u2_tg, .ref u2_tp, .ref u2_tm, .int 0, .int 0, .int 1], cin g u2_tl 4 tq_first, cin g u2_tf 6 (fun _ => 2), cin g u2_ta 6 (fun _ => 4), cin g u2_tk 8 (fun _ => 0), cin g u2_tg 8 (fun _ => 0), cin g u2_tp 8 (fun _ => 0), cin g u2_tm 8 (fun _ => 0), ckd g u2_ak 6 (kdf u2_k0 u2_k1 u2_k2 u2_k3 u2_k4 u2_k5), cob u2_k0 4 [], cob u2_k1 2 [], cob u2_k2 5 [], cob u2_k3 6 [], cob u2_k4 9 [], cob u2_k5 1 [], cob u2_yt 8 [.ref u2_ak, .ref u2_ytl, .ref u2_ytf, .ref u2_yta, .ref u2_ytk, .ref u2_ytg, .ref u2_ytp, .ref u2_ytm, .int 0, .int 0, .int 1], cin g u2_ytl 4 tq_first, cin g u2_ytf 6 (fun _ => 2), cin g u2_yta 6 (fun _ => 4), cin g u2_ytk 8 (fun _ => 0), cin g u2_ytg 8 (fun _ => 0), cin g u2_ytp 8 (fun _ => 0), cin g u2_ytm 8 (fun _ => 0), cob u2_xt 8 [.ref u2_ak, .ref u2_xtl, .ref u2_xtf, .ref u2_xta, .ref u2_xtk, .ref u2_xtg, .ref u2_xtp, .ref u2_xtm, .int 0, .int 0, .int 1], cin g u2_xtl 4 tq_first, cin g u2_xtf 6 (fun _ => 2), cin g u2_xta 6 (fun _ => 4), cin g u2_xtk 8 (fun _ => 0), cin g u2_xtg 8 (fun _ => 0), cin g u2_xtp 8 (fun _ => 0), cin g u2_xtm 8 (fun _ => 0), cin g u2_lrw 30 (fun _ => 0), cob u2_ltp 7 [.ref u2_lby, .int 0, .int 0, .int 0, .int 0], cob u2_lac 0 [.int 0, .int 0, .int 0, .int 0, .ref u2_lbd], cin g u2_lbd 30 (fun _ => 0), cin g u2_lhh 4 (fun _ => 2), cin g u2_lhg 4 (fun _ => 0), cby g u2_lby 200 (fun _ => 0), cit g u2_lhr 4 (fun _ => none), cob n_3 11 [.ref u4_os, .ref u4_ok, .ref u4_ol, .ref u4_ord, .int 0, .ref u4_odd, .ref u4_otp, .int 0, .ref u4_olt, .int 0, .int 0, .int 0, .int 0, .ref u4_orw, .int 0, .ref u4_oso, .ref u4_osz, .ref u4_oit, .ref u4_oho, .ref u4_ohe, .ref u4_otr, .int 0, .int 0, .int 0], cin g u4_os 51 (mR 0 tq_first 1 0 (fun _ => 2) (fun _ => 4) (fun _ => 0) (fun _ => 0) (fun _ => 0) (fun _ => 0)), cin g u4_ok 51 (mR 0 (fun _ => (0 : Int32)) 0 0 (fun _ => (0 : Int32)) (fun _ => (0 : Int32)) (fun _ => (0 : Int32)) (fun _ => (0 : Int32)) (fun _ => (0 : Int32)) (fun _ => (0 : Int32))), cin g u4_ol 51 (fun _ => 0), cin g u4_ord 51 (fun _ => 0), cin g u4_odd 8 (fun _ => 0), cin g u4_otp 200 (fun _ => 0), cch g u4_olt 120 mlet, cin g u4_orw 30 (fun _ => 0), cin g u4_oso 4 (fun _ => -1), cin g u4_osz 4 (fun _ => 0), cin g u4_oit 160 (fun _ => 0), cin g u4_oho 4 (fun _ => -1), cin g u4_ohe 4 (fun _ => 0), cin g u4_otr 30 (fun _ => 0)]) rfl
  have hw := hv_ext hw 47 (f' := ubT (fun _ => (0 : Int32))) rfl (fun j hj => (show (0 : Int32) = (0 : Int32) &&& 255 by decide)) (W' := [cob n_1 10 [.ref u2_ak, .ref u2_t, .ref u2_yt, .ref u2_xt, .int 0, .ref u2_ltp, .ref u2_lrw, .int 0, .ref u2_lac, .ref u2_lsh, .ref u2_lhh, .ref u2_lhg, .ref u2_lhr], cit g u2_lsh 4 (fun _ => none), cob u2_t 8 [.ref u2_ak, .ref u2_tl, .ref u2_tf, .ref u2_ta, .ref u2_tk, .ref u2_tg, .ref u2_tp, .ref u2_tm, .int 0, .int 0, .int 1], cin g u2_tl 4 tq_first, cin g u2_tf 6 (fun _ => 2), cin g u2_ta 6 (fun _ => 4), cin g u2_tk 8 (fun _ => 0), cin g u2_tg 8 (fun _ => 0), cin g u2_tp 8 (fun _ => 0), cin g u2_tm 8 (fun _ => 0), ckd g u2_ak 6 (kdf u2_k0 u2_k1 u2_k2 u2_k3 u2_k4 u2_k5), cob u2_k0 4 [], cob u2_k1 2 [], cob u2_k2 5 [], cob u2_k3 6 [], cob u2_k4 9 [], cob u2_k5 1 [], cob u2_yt 8 [.ref u2_ak, .ref u2_ytl, .ref u2_ytf, .ref u2_yta, .ref u2_ytk, .ref u2_ytg, .ref u2_ytp, .ref u2_ytm, .int 0, .int 0, .int 1], cin g u2_ytl 4 tq_first, cin g u2_ytf 6 (fun _ => 2), cin g u2_yta 6 (fun _ => 4), cin g u2_ytk 8 (fun _ => 0), cin g u2_ytg 8 (fun _ => 0), cin g u2_ytp 8 (fun _ => 0), cin g u2_ytm 8 (fun _ => 0), cob u2_xt 8 [.ref u2_ak, .ref u2_xtl, .ref u2_xtf, .ref u2_xta, .ref u2_xtk, .ref u2_xtg, .ref u2_xtp, .ref u2_xtm, .int 0, .int 0, .int 1], cin g u2_xtl 4 tq_first, cin g u2_xtf 6 (fun _ => 2), cin g u2_xta 6 (fun _ => 4), cin g u2_xtk 8 (fun _ => 0), cin g u2_xtg 8 (fun _ => 0), cin g u2_xtp 8 (fun _ => 0), cin g u2_xtm 8 (fun _ => 0), cin g u2_lrw 30 (fun _ => 0), cob u2_ltp 7 [.ref u2_lby, .int 0, .int 0, .int 0, .int 0], cob u2_lac 0 [.int 0, .int 0, .int 0, .int 0, .ref u2_lbd], cin g u2_lbd 30 (fun _ => 0), cin g u2_lhh 4 (fun _ => 2), cin g u2_lhg 4 (fun _ => 0), cby g u2_lby 200 (fun _ => 0), cit g u2_lhr 4 (fun _ => none), cob n_3 11 [.ref u4_os, .ref u4_ok, .ref u4_ol, .ref u4_ord, .int 0, .ref u4_odd, .ref u4_otp, .int 0, .ref u4_olt, .int 0, .int 0, .int 0, .int 0, .ref u4_orw, .int 0, .ref u4_oso, .ref u4_osz, .ref u4_oit, .ref u4_oho, .ref u4_ohe, .ref u4_otr, .int 0, .int 0, .int 0], cin g u4_os 51 (mR 0 tq_first 1 0 (fun _ => 2) (fun _ => 4) (fun _ => 0) (fun _ => 0) (fun _ => 0) (fun _ => 0)), cin g u4_ok 51 (mR 0 (fun _ => (0 : Int32)) 0 0 (fun _ => (0 : Int32)) (fun _ => (0 : Int32)) (fun _ => (0 : Int32)) (fun _ => (0 : Int32)) (fun _ => (0 : Int32)) (fun _ => (0 : Int32))), cin g u4_ol 51 (fun _ => 0), cin g u4_ord 51 (fun _ => 0), cin g u4_odd 8 (fun _ => 0), cin g u4_otp 200 (ubT (fun _ => (0 : Int32))), cch g u4_olt 120 mlet, cin g u4_orw 30 (fun _ => 0), cin g u4_oso 4 (fun _ => -1), cin g u4_osz 4 (fun _ => 0), cin g u4_oit 160 (fun _ => 0), cin g u4_oho 4 (fun _ => -1), cin g u4_ohe 4 (fun _ => 0), cin g u4_otr 30 (fun _ => 0)]) rfl
  have hw : hv g (fun q => s.heap.size ≤ q) s _ _ (cob n_1 10 [.ref u2_ak, .ref u2_t, .ref u2_yt, .ref u2_xt, .int 0, .ref u2_ltp, .ref u2_lrw, .int (nI 0), .ref u2_lac, .ref u2_lsh, .ref u2_lhh, .ref u2_lhg, .ref u2_lhr] :: cit g u2_lsh 4 (fun _ => none) :: cob u2_t 8 [.ref u2_ak, .ref u2_tl, .ref u2_tf, .ref u2_ta, .ref u2_tk, .ref u2_tg, .ref u2_tp, .ref u2_tm, .int (nI 0), .int (nI 0), .int 1] :: cin g u2_tl 4 tq_first :: cin g u2_tf 6 (fun _ => 2) :: cin g u2_ta 6 (fun _ => 4) :: cin g u2_tk 8 (fun _ => (0 : Int32)) :: cin g u2_tg 8 (fun _ => (0 : Int32)) :: cin g u2_tp 8 (fun _ => (0 : Int32)) :: cin g u2_tm 8 (fun _ => (0 : Int32)) :: ckd g u2_ak 6 (kdf u2_k0 u2_k1 u2_k2 u2_k3 u2_k4 u2_k5) :: cob u2_k0 4 [] :: cob u2_k1 2 [] :: cob u2_k2 5 [] :: cob u2_k3 6 [] :: cob u2_k4 9 [] :: cob u2_k5 1 [] :: cob u2_yt 8 [.ref u2_ak, .ref u2_ytl, .ref u2_ytf, .ref u2_yta, .ref u2_ytk, .ref u2_ytg, .ref u2_ytp, .ref u2_ytm, .int (nI 0), .int (nI 0), .int 1] :: cin g u2_ytl 4 tq_first :: cin g u2_ytf 6 (fun _ => 2) :: cin g u2_yta 6 (fun _ => 4) :: cin g u2_ytk 8 (fun _ => (0 : Int32)) :: cin g u2_ytg 8 (fun _ => (0 : Int32)) :: cin g u2_ytp 8 (fun _ => (0 : Int32)) :: cin g u2_ytm 8 (fun _ => (0 : Int32)) :: cob u2_xt 8 [.ref u2_ak, .ref u2_xtl, .ref u2_xtf, .ref u2_xta, .ref u2_xtk, .ref u2_xtg, .ref u2_xtp, .ref u2_xtm, .int (nI 0), .int (nI 0), .int 1] :: cin g u2_xtl 4 tq_first :: cin g u2_xtf 6 (fun _ => 2) :: cin g u2_xta 6 (fun _ => 4) :: cin g u2_xtk 8 (fun _ => (0 : Int32)) :: cin g u2_xtg 8 (fun _ => (0 : Int32)) :: cin g u2_xtp 8 (fun _ => (0 : Int32)) :: cin g u2_xtm 8 (fun _ => (0 : Int32)) :: cin g u2_lrw 30 (fun _ => (0 : Int32)) :: cob u2_ltp 7 [.ref u2_lby, .int (nI 0), .int 0, .int 0, .int 0] :: cob u2_lac 0 [.int 0, .int 0, .int 0, .int (nI 0), .ref u2_lbd] :: cin g u2_lbd 30 (fun _ => (0 : Int32)) :: cin g u2_lhh 4 (fun _ => 2) :: cin g u2_lhg 4 (fun _ => (0 : Int32)) :: cby g u2_lby 200 (fun _ => (0 : Int32)) :: cit g u2_lhr 4 (fun _ => none) :: cob n_3 11 [.ref u4_os, .ref u4_ok, .ref u4_ol, .ref u4_ord, .int 0, .ref u4_odd, .ref u4_otp, .int (nI 0), .ref u4_olt, .int 0, .int 0, .int 0, .int 0, .ref u4_orw, .int (nI 0), .ref u4_oso, .ref u4_osz, .ref u4_oit, .ref u4_oho, .ref u4_ohe, .ref u4_otr, .int (nI 0), .int 0, .int 0] :: cin g u4_os 51 (mR 0 tq_first 1 0 (fun _ => 2) (fun _ => 4) (fun _ => (0 : Int32)) (fun _ => (0 : Int32)) (fun _ => (0 : Int32)) (fun _ => (0 : Int32))) :: cin g u4_ok 51 (mR 0 (fun _ => (0 : Int32)) 0 0 (fun _ => (0 : Int32)) (fun _ => (0 : Int32)) (fun _ => (0 : Int32)) (fun _ => (0 : Int32)) (fun _ => (0 : Int32)) (fun _ => (0 : Int32))) :: cin g u4_ol 51 (fun _ => (0 : Int32)) :: cin g u4_ord 51 (fun _ => (0 : Int32)) :: cin g u4_odd 8 (fun _ => (0 : Int32)) :: cin g u4_otp 200 (ubT (fun _ => (0 : Int32))) :: cch g u4_olt 120 mlet :: cin g u4_orw 30 (fun _ => (0 : Int32)) :: cin g u4_oso 4 (fun _ => -1) :: cin g u4_osz 4 (fun _ => (0 : Int32)) :: cin g u4_oit 160 (fun _ => (0 : Int32)) :: cin g u4_oho 4 (fun _ => -1) :: cin g u4_ohe 4 (fun _ => (0 : Int32)) :: cin g u4_otr 30 (fun _ => (0 : Int32)) :: plW g []) := hw
  refine W.widen (k := 100 + 2 * 0) (n := 2000 + 42 * 0) (by omega) (by omega) ?_
  have hl : lv_has ls 4 [(3, .int (nI (5 * 0))), (2, .ref n_3), (1, .ref n_1), (0, .ref b)] := hl
  exact law_loop C hr hlocks (L + 1) 0 (by omega) (by omega) hw ⟨Nat.zero_le _, Nat.zero_le _, fun j hj => rfl, fun j hj => rfl, fun j hj => rfl, fun j hj => rfl, fun j hj => absurd hj (by omega), fun j hj => absurd hj (by omega), fun j hj => absurd hj (by omega)⟩ ⟨Nat.zero_le _, Or.inl rfl⟩ ⟨fun q h => rfl, fun q => ⟨show (0 : Int32) = nI (ix 0) by decide, show ix (0 : Int32) ≤ 40 by decide⟩, fun q r a h _ => (by have h2 : (none : Option Nat) = some a := h; cases h2), fun q h => Or.inl ⟨rfl, show (-1 : Int32) < 0 by decide⟩⟩ ⟨fun q h => rfl, fun q h => Or.inr (Or.inl ⟨show ¬ (2 : Int32) = 0 by decide, rfl, rfl⟩)⟩ ⟨Nat.zero_le _, Nat.zero_le _, Nat.zero_le _, fun j => ⟨0, by decide, show (0 : Int32) = (nI 0).toInt8.toInt32 by decide⟩⟩ hl
