theorem hv_full {g : GG} {A : Nat → Prop} {s : State} {H H1 : Heap} {locs locs1 : List Loc} {ws ws' : va_W} (hw : hv g A s H locs ws) (hfst : ws'.map Prod.fst = ws.map Prod.fst) (hP1 : va_P g.1 vwCl ws' H1) (hS : va_S A s.heap H1 locs1) : hv g A s H1 locs1 ws' := by
  have fst' : ∀ (j : Nat) (q : Nat × va_E), ws'[j]? = some q → ∃ q0, ws[j]? = some q0 ∧ q0.1 = q.1 := by
    intro j q hq
    have h1 : (ws'.map Prod.fst)[j]? = some q.1 := by rw [List.getElem?_map, hq]; rfl
    rw [hfst, List.getElem?_map] at h1
    cases h2 : ws[j]? with
    | none => rw [h2] at h1; cases h1
    | some q0 => rw [h2] at h1; exact ⟨q0, rfl, Option.some.inj h1⟩
  refine ⟨hP1, ⟨fun i j x y hi hj hxy => ?_, fun k q hk' => ?_⟩, hS⟩
  · obtain ⟨x0, a1, a2⟩ := fst' i x hi
    obtain ⟨y0, b1, b2⟩ := fst' j y hj
    exact hw.2.1.1 i j x0 y0 a1 b1 (a2.trans (hxy.trans b2.symm))
  · obtain ⟨q0, a1, a2⟩ := fst' k q hk'
    rw [← a2]
    exact hw.2.1.2 k q0 a1
theorem range_all (W : va_W) : (List.range W.length).map (fun i => W[i]?) = W.map some := by
  apply List.ext_getElem?
  intro k
  by_cases h : k < W.length
  · rw [List.getElem?_map, List.getElem?_range h, List.getElem?_map, List.getElem?_eq_getElem h]; simp [h]
  · rw [List.getElem?_eq_none (by simp; omega), List.getElem?_eq_none (by simp; omega)]
theorem nd_range : ∀ (l : List Nat), l.Nodup → va_nd l = true
  | [], _ => rfl
  | a :: l, h => by
    rw [List.nodup_cons] at h
    simp [va_nd, h.1, nd_range l h.2]
section CORE4
variable {p : Program} {l : Launch} {e : Env} {R : Room} {s : State} {m : MethodId} {args : Array Value} {below : List Frame} {meth : Method} {c : Code} {H : Heap} {locs : List Loc} {cells slots : Nat} {Q : State → Prop}
variable {cc : ByteArray} {nL pc : Nat} {Ts : List Cond} {own : String} {ls : Array Slot} {rest st0 : List Value} {g : GG} {A : Nat → Prop}
/-- a call over the whole of the caller's world -/
theorem mcVF {ws : va_W} {Post : Option Value → va_W → Prop} {y : MethodName} {cw : List Cond} {rm : Room} {As : List Value} {b index n maxL ci : Nat} {bytes : ByteArray} {ret : Option FieldType} {C : String} {T : u_T} {N : Nat} {fs : List Value}
    (hf : CallFix p m c cc nL s args Ts own) (hk : kk g s) (hst : sta g A s s.heap) (hw : hv g A s H locs ws) (hM : mtR l g y cw rm (.ref b :: As) ws Post) (cwd : CallW R s args own C index y bytes maxL ret cw rm 0 0 n) (q0 : Nat) (he : ws[q0]? = some (b, .inr (ci, fs))) (hc : vwCl[ci]? = some (C, T, N)) (hlen : As.length = n) (hls : ls.size = nL) (hstk : st0 = As.reverse ++ .ref b :: rest) (hroom : (rest.map fun v => v.category).sum ≤ 8) (hdg : decode cc pc = .ok (.invokevirtual index, 3)) (hcs : cells ≤ R.cells ∧ slots ≤ R.slots)
    (kk : ∀ (rv : Option Value) (ws' : va_W), Post rv ws' → ∀ (H1 : Heap) (locs1 : List Loc), hv g A s H1 locs1 ws' → W p l e R s m args below meth c H1 locs1 cells slots Q (F0 m (pc + 3) ls (rv.toList ++ rest))) : W p l e R s m args below meth c H locs cells slots Q (F0 m pc ls st0) := by
  have hC := range_all ws
  have hn : va_nd (List.range ws.length) = true := nd_range _ List.nodup_range
  have hr : va_Run p l e R s m args below meth c H locs cells slots 0 0 (F0 m pc ls st0) rest (mtS g ws Post (Value.ref b :: As).toArray) (va_I ws) := va_runV hf hM cwd ⟨mtP.blind g _ ws, va_recv hk.1 hw.1 hc he, mpre hk hst hw _ hC hn⟩ rfl hlen hls hstk (lv_room hroom) hdg hcs
  intro T hT X
  obtain ⟨v, st₀, t, T', L, h0, X', hL, e1, e2, ⟨rv, ws', hv0, hPo, hfst, hP1, hz, hkq⟩, st⟩ := hr T hT X
  cases hv0
  rw [h0] at hz hkq
  have hsub := va_I.sub hw.2.1 _ hC
  have hS1 : va_S A s.heap T'.heap (locs ++ L) := ⟨Nat.le_trans hw.2.2.1 (by rw [e1]; exact hz), fun q h1 h2 => by rw [e1, hkq q (Nat.lt_of_lt_of_le h1 hw.2.2.1) (fun z => h2 (hsub q z))]; exact hw.2.2.2.1 q h1 h2, fun q hq => by
      rcases List.mem_append.mp hq with h | h
      · exact hw.2.2.2.2 q h
      · exact hsub _ (hL q h)⟩
  obtain ⟨t2, a1, b1⟩ := kk v ws' hPo T'.heap (locs ++ L) (hv_full hw hfst (by rw [e1]; exact hP1) hS1) T' rfl X'
  exact ⟨t2, st t2 a1, b1⟩
end CORE4
theorem hdV_X10_soonestAs : yX10_soonestAs.cls = RX10 ∧ yX10_soonestAs.cls ≠ "java/lang/invoke/MethodHandle" ∧ yX10_soonestAs.cls ≠ "java/lang/invoke/VarHandle" ∧ (parseMethodDescriptor yX10_soonestAs.desc).map (fun d => d.parameters.length) = some 2 := by decide +kernel
def f_X10_comes (laws : Nat → Int32) (fogs : Nat → Int32) (arms : Nat → Int32) (kinds : Nat → Int32) (faiths : Nat → Int32) (places : Nat → Int32) (moved : Nat → Int32) (cnt : Nat) (stp : Nat) (goer : Int32) : Int32 := if (f_X8_has cnt goer) = 0 then (-1) else (if (snR (itT laws fogs arms (kinds (ix goer)) stp (faiths (ix goer)) (places (ix goer)) (moved (ix goer))) 61 0) ≤ 60 then (snR (itT laws fogs arms (kinds (ix goer)) stp (faiths (ix goer)) (places (ix goer)) (moved (ix goer))) 61 0) else (-3))
abbrev rmX10_comes : Room := { frames := 6, cells := 0, slots := 0, locals := 140 }
set_option maxHeartbeats 4000000 in
set_option maxRecDepth 100000 in
theorem c_X10_comes (l : Launch) (g : GG) (lh : Nat) (t : Nat) (tl : Nat) (tf : Nat) (ta : Nat) (tk : Nat) (tg : Nat) (tp : Nat) (tm : Nat) (laws : Nat → Int32) (fogs : Nat → Int32) (arms : Nat → Int32) (kinds : Nat → Int32) (faiths : Nat → Int32) (places : Nat → Int32) (moved : Nat → Int32) (cnt : Nat) (stp : Nat) (z : Int32) (xt : Nat) (xtl : Nat) (xtf : Nat) (xta : Nat) (xtk : Nat) (xtg : Nat) (xtp : Nat) (xtm : Nat) (xlaws : Nat → Int32) (xfogs : Nat → Int32) (xarms : Nat → Int32) (xkinds : Nat → Int32) (xfaiths : Nat → Int32) (xplaces : Nat → Int32) (xmoved : Nat → Int32) (xcnt : Nat) (xstp : Nat) (xz : Int32) (yt : Nat) (ak : Nat) (k0 : Nat) (k1 : Nat) (k2 : Nat) (k3 : Nat) (k4 : Nat) (k5 : Nat) (isk : Int32) (ltp : Nat) (lrw : Nat) (rc : Nat) (lac : Nat) (lsh : Nat) (lhh : Nat) (lhg : Nat) (lhr : Nat) (goer : Int32) (hc8 : cnt ≤ 8) (hsp : stp < 2 ^ 29) (hkd : ∀ j, j < cnt → isK (kinds j)) : mtR l g yX10_comes wsX10_comes rmX10_comes [.ref lh, .int goer] [cob lh 10 [.ref ak, .ref t, .ref yt, .ref xt, .int isk, .ref ltp, .ref lrw, .int (nI rc), .ref lac, .ref lsh, .ref lhh, .ref lhg, .ref lhr], cob t 8 [.ref ak, .ref tl, .ref tf, .ref ta, .ref tk, .ref tg, .ref tp, .ref tm, .int (nI cnt), .int (nI stp), .int z], cin g tl 4 laws, cin g tf 6 fogs, cin g ta 6 arms, cin g tk 8 kinds, cin g tg 8 faiths, cin g tp 8 places, cin g tm 8 moved, cob xt 8 [.ref ak, .ref xtl, .ref xtf, .ref xta, .ref xtk, .ref xtg, .ref xtp, .ref xtm, .int (nI xcnt), .int (nI xstp), .int xz], cin g xtl 4 xlaws, cin g xtf 6 xfogs, cin g xta 6 xarms, cin g xtk 8 xkinds, cin g xtg 8 xfaiths, cin g xtp 8 xplaces, cin g xtm 8 xmoved, ckd g ak 6 (kdf k0 k1 k2 k3 k4 k5), cob k0 4 [], cob k1 2 [], cob k2 5 [], cob k3 6 [], cob k4 9 [], cob k5 1 []] (fun rv W => rv = (some (.int (f_X10_comes laws fogs arms kinds faiths places moved cnt stp goer))) ∧ ∃ (j0 : Nat) (j1 : Nat) (j2 : Int32) (j3 : Nat → Int32) (j4 : Nat → Int32) (j5 : Nat → Int32) (j6 : Nat → Int32) (j7 : Nat → Int32) (j8 : Nat → Int32) (j9 : Nat → Int32), W = [cob lh 10 [.ref ak, .ref t, .ref yt, .ref xt, .int isk, .ref ltp, .ref lrw, .int (nI rc), .ref lac, .ref lsh, .ref lhh, .ref lhg, .ref lhr], cob t 8 [.ref ak, .ref tl, .ref tf, .ref ta, .ref tk, .ref tg, .ref tp, .ref tm, .int (nI cnt), .int (nI stp), .int z], cin g tl 4 laws, cin g tf 6 fogs, cin g ta 6 arms, cin g tk 8 kinds, cin g tg 8 faiths, cin g tp 8 places, cin g tm 8 moved, cob xt 8 [.ref ak, .ref xtl, .ref xtf, .ref xta, .ref xtk, .ref xtg, .ref xtp, .ref xtm, .int (nI j0), .int (nI j1), .int j2], cin g xtl 4 j3, cin g xtf 6 j4, cin g xta 6 j5, cin g xtk 8 j6, cin g xtg 8 j7, cin g xtp 8 j8, cin g xtm 8 j9, ckd g ak 6 (kdf k0 k1 k2 k3 k4 k5), cob k0 4 [], cob k1 2 [], cob k2 5 [], cob k3 6 [], cob k4 9 [], cob k5 1 []]) := by
  refine mtR.of (cc := cX10_comes) (nL := 3) (ret := (some .int)) (own := RX10) (by decide +kernel) rfl rfl (Nat.le_of_ble_eq_true rfl) (fun p e s m below meth c hf hr hlk _ hk hst hw ls hl => ?_)
  have hx := hf.1
  have hb := hf.2.1
  have hts := hf.2.2.2.2
  have hl : lv_has ls 3 [(0, .ref lh), (1, .int goer)] := hl
  have hinX10 : ∀ w ∈ u_ws RX10 TX10 13, w ∈ wsX10_comes := fun w h => List.mem_cons_of_mem _ (List.mem_append_left _ (List.mem_append_right _ h))
  have w_0 : Cond.fieldLink RX10 36 "LightMan" "now" "LLightMan$Tunnel;" ∈ wsX10_comes := List.mem_of_getElem? (i := 1) rfl
  have hinX8 : ∀ w ∈ u_ws RX8 TX8 11, w ∈ wsX10_comes := fun w h => List.mem_cons_of_mem _ (List.mem_append_right _ h)
  have w_1 : Cond.fieldLink RX10 138 "LightMan$Tunnel" "kinds" "[I" ∈ wsX10_comes := List.mem_of_getElem? (i := 2) rfl
  refine lv_aload_n hx hb dX10_comes_0 rfl (lv_at hl 0 rfl) ?_
  refine rg hf hk hw hinX10 0 rfl rfl 1 (by decide) w_0 rfl dX10_comes_1 ?_
  refine lv_iload_n hx hb dX10_comes_4 rfl (lv_at hl 1 rfl) ?_
  refine mcV hf hk hst hw (c_X8_has l g t tl tf ta tk tg tp tm cnt stp z ak goer) (cwV 1 hts gX10_comes_X8_has rfl rfl rfl hdV_X8_has ⟨Nat.le_of_ble_eq_true rfl, Nat.le_of_ble_eq_true rfl⟩) [1] rfl rfl 1 rfl rfl rfl hl.1 rfl (Nat.le_of_ble_eq_true rfl) dX10_comes_5 ⟨Nat.zero_le _, Nat.zero_le _⟩ (W' := [cob lh 10 [.ref ak, .ref t, .ref yt, .ref xt, .int isk, .ref ltp, .ref lrw, .int (nI rc), .ref lac, .ref lsh, .ref lhh, .ref lhg, .ref lhr], cob t 8 [.ref ak, .ref tl, .ref tf, .ref ta, .ref tk, .ref tg, .ref tp, .ref tm, .int (nI cnt), .int (nI stp), .int z], cin g tl 4 laws, cin g tf 6 fogs, cin g ta 6 arms, cin g tk 8 kinds, cin g tg 8 faiths, cin g tp 8 places, cin g tm 8 moved, cob xt 8 [.ref ak, .ref xtl, .ref xtf, .ref xta, .ref xtk, .ref xtg, .ref xtp, .ref xtm, .int (nI xcnt), .int (nI xstp), .int xz], cin g xtl 4 xlaws, cin g xtf 6 xfogs, cin g xta 6 xarms, cin g xtk 8 xkinds, cin g xtg 8 xfaiths, cin g xtp 8 xplaces, cin g xtm 8 xmoved, ckd g ak 6 (kdf k0 k1 k2 k3 k4 k5), cob k0 4 [], cob k1 2 [], cob k2 5 [], cob k3 6 [], cob k4 9 [], cob k5 1 []]) rfl (fun H locs hw => ?_)
  refine lv_if_ne (tgt := 13) hx hb dX10_comes_8 (by decide) (fun c_1 => ?_) (fun c_1 => ?_)
  · have hg := has_n hc8 c_1
    have hg2 := hg.2
    refine lv_aload_n hx hb dX10_comes_13 rfl (lv_at hl 0 rfl) ?_
    refine lv_iload_n hx hb dX10_comes_14 rfl (lv_at hl 1 rfl) ?_
    refine lv_tope (y := nI (ix goer)) hg.1 ?_
    refine lv_aload_n hx hb dX10_comes_15 rfl (lv_at hl 0 rfl) ?_
    refine rg hf hk hw hinX10 0 rfl rfl 1 (by decide) w_0 rfl dX10_comes_16 ?_
    refine rg hf hk hw hinX8 1 rfl rfl 4 (by decide) w_1 rfl dX10_comes_19 ?_
    refine lv_iload_n hx hb dX10_comes_22 rfl (lv_at hl 1 rfl) ?_
    refine lv_tope (y := nI (ix goer)) hg.1 ?_
    refine rij hf hk hw 5 rfl (j := ix goer) (vp_in_nI (by omega) (by omega)) (nI_clamp (by omega)) dX10_comes_23 ?_
    refine mcVF hf hk hst hw (c_X10_soonestAs l g lh t tl tf ta tk tg tp tm laws fogs arms kinds faiths places moved cnt stp z xt xtl xtf xta xtk xtg xtp xtm xlaws xfogs xarms xkinds xfaiths xplaces xmoved xcnt xstp xz yt ak k0 k1 k2 k3 k4 k5 isk ltp lrw rc lac lsh lhh lhg lhr (ix goer) (kinds (ix goer)) (by omega) (by omega) (by assumption) (hg2) (hkd _ hg2)) (cwV 2 hts gX10_comes_X10_soonestAs rfl rfl rfl hdV_X10_soonestAs ⟨Nat.le_of_ble_eq_true rfl, Nat.le_of_ble_eq_true rfl⟩) 0 rfl rfl rfl hl.1 rfl (Nat.le_of_ble_eq_true rfl) dX10_comes_24 ⟨Nat.zero_le _, Nat.zero_le _⟩ (fun rv ws2 hPo H locs hw => ?_)
    obtain ⟨rfl, u2_j0, u2_j1, u2_j2, u2_j3, u2_j4, u2_j5, u2_j6, u2_j7, u2_j8, u2_j9, rfl⟩ := hPo
    refine lv_istore_n (lv' := [(2, .int (snR (itT laws fogs arms (kinds (ix goer)) stp (faiths (ix goer)) (places (ix goer)) (moved (ix goer))) 61 0)), (0, .ref lh), (1, .int goer)]) hx hb dX10_comes_27 rfl hl (by decide) rfl (fun ls hl => ?_)
    refine lv_iload_n hx hb dX10_comes_28 rfl (lv_at hl 0 rfl) ?_
    refine lv_bipush (v := 60) hx hb dX10_comes_29 (by decide) ?_
    refine lv_icmp_le (tgt := 39) hx hb dX10_comes_31 (by decide) (fun c_3 => ?_) (fun c_3 => ?_)
    · refine lv_iload_n hx hb dX10_comes_39 rfl (lv_at hl 0 rfl) ?_
      exact rE_i hf hr hlk hw ⟨congrArg some (by simp only [f_X10_comes, if_neg c_1, if_pos c_3]), _, _, _, _, _, _, _, _, _, _, rfl⟩ (show ([lh, t, tl, tf, ta, tk, tg, tp, tm, xt, xtl, xtf, xta, xtk, xtg, xtp, xtm, ak, k0, k1, k2, k3, k4, k5] : List Nat) = [lh, t, tl, tf, ta, tk, tg, tp, tm, xt, xtl, xtf, xta, xtk, xtg, xtp, xtm, ak, k0, k1, k2, k3, k4, k5] from rfl) dX10_comes_40
    · refine lv_bipush (v := (-3)) hx hb dX10_comes_34 (by decide) ?_
      refine lv_goto (tgt := 40) hx hb dX10_comes_36 (by decide) ?_
      exact rE_i hf hr hlk hw ⟨congrArg some (by simp only [f_X10_comes, if_neg c_1, if_neg c_3]), _, _, _, _, _, _, _, _, _, _, rfl⟩ (show ([lh, t, tl, tf, ta, tk, tg, tp, tm, xt, xtl, xtf, xta, xtk, xtg, xtp, xtm, ak, k0, k1, k2, k3, k4, k5] : List Nat) = [lh, t, tl, tf, ta, tk, tg, tp, tm, xt, xtl, xtf, xta, xtk, xtg, xtp, xtm, ak, k0, k1, k2, k3, k4, k5] from rfl) dX10_comes_40
  · refine lv_iconst (v := (-1)) hx hb dX10_comes_11 (by decide) ?_
    exact rE_i hf hr hlk hw ⟨congrArg some (by simp only [f_X10_comes, if_pos c_1]), _, _, _, _, _, _, _, _, _, _, rfl⟩ (show ([lh, t, tl, tf, ta, tk, tg, tp, tm, xt, xtl, xtf, xta, xtk, xtg, xtp, xtm, ak, k0, k1, k2, k3, k4, k5] : List Nat) = [lh, t, tl, tf, ta, tk, tg, tp, tm, xt, xtl, xtf, xta, xtk, xtg, xtp, xtm, ak, k0, k1, k2, k3, k4, k5] from rfl) dX10_comes_12
theorem hdV_X10_firstStepOf : yX10_firstStepOf.cls = RX10 ∧ yX10_firstStepOf.cls ≠ "java/lang/invoke/MethodHandle" ∧ yX10_firstStepOf.cls ≠ "java/lang/invoke/VarHandle" ∧ (parseMethodDescriptor yX10_firstStepOf.desc).map (fun d => d.parameters.length) = some 2 := by decide +kernel
def f_X10_sits (laws : Nat → Int32) (fogs : Nat → Int32) (arms : Nat → Int32) (kinds : Nat → Int32) (faiths : Nat → Int32) (places : Nat → Int32) (moved : Nat → Int32) (cnt : Nat) (stp : Nat) (goer : Int32) : Int32 := if (f_X8_has cnt goer) = 0 then (-1) else (fsR (itD laws fogs arms (kinds (ix goer)) stp (faiths (ix goer)) (places (ix goer)) (moved (ix goer))) 2 60 0)
abbrev rmX10_sits : Room := { frames := 6, cells := 0, slots := 0, locals := 140 }
set_option maxHeartbeats 4000000 in
set_option maxRecDepth 100000 in
theorem c_X10_sits (l : Launch) (g : GG) (lh : Nat) (t : Nat) (tl : Nat) (tf : Nat) (ta : Nat) (tk : Nat) (tg : Nat) (tp : Nat) (tm : Nat) (laws : Nat → Int32) (fogs : Nat → Int32) (arms : Nat → Int32) (kinds : Nat → Int32) (faiths : Nat → Int32) (places : Nat → Int32) (moved : Nat → Int32) (cnt : Nat) (stp : Nat) (z : Int32) (xt : Nat) (xtl : Nat) (xtf : Nat) (xta : Nat) (xtk : Nat) (xtg : Nat) (xtp : Nat) (xtm : Nat) (xlaws : Nat → Int32) (xfogs : Nat → Int32) (xarms : Nat → Int32) (xkinds : Nat → Int32) (xfaiths : Nat → Int32) (xplaces : Nat → Int32) (xmoved : Nat → Int32) (xcnt : Nat) (xstp : Nat) (xz : Int32) (yt : Nat) (ak : Nat) (k0 : Nat) (k1 : Nat) (k2 : Nat) (k3 : Nat) (k4 : Nat) (k5 : Nat) (isk : Int32) (ltp : Nat) (lrw : Nat) (rc : Nat) (lac : Nat) (lsh : Nat) (lhh : Nat) (lhg : Nat) (lhr : Nat) (goer : Int32) (hc8 : cnt ≤ 8) (hsp : stp < 2 ^ 29) (hkd : ∀ j, j < cnt → isK (kinds j)) : mtR l g yX10_sits wsX10_sits rmX10_sits [.ref lh, .int goer] [cob lh 10 [.ref ak, .ref t, .ref yt, .ref xt, .int isk, .ref ltp, .ref lrw, .int (nI rc), .ref lac, .ref lsh, .ref lhh, .ref lhg, .ref lhr], cob t 8 [.ref ak, .ref tl, .ref tf, .ref ta, .ref tk, .ref tg, .ref tp, .ref tm, .int (nI cnt), .int (nI stp), .int z], cin g tl 4 laws, cin g tf 6 fogs, cin g ta 6 arms, cin g tk 8 kinds, cin g tg 8 faiths, cin g tp 8 places, cin g tm 8 moved, cob xt 8 [.ref ak, .ref xtl, .ref xtf, .ref xta, .ref xtk, .ref xtg, .ref xtp, .ref xtm, .int (nI xcnt), .int (nI xstp), .int xz], cin g xtl 4 xlaws, cin g xtf 6 xfogs, cin g xta 6 xarms, cin g xtk 8 xkinds, cin g xtg 8 xfaiths, cin g xtp 8 xplaces, cin g xtm 8 xmoved, ckd g ak 6 (kdf k0 k1 k2 k3 k4 k5), cob k0 4 [], cob k1 2 [], cob k2 5 [], cob k3 6 [], cob k4 9 [], cob k5 1 []] (fun rv W => rv = (some (.int (f_X10_sits laws fogs arms kinds faiths places moved cnt stp goer))) ∧ ∃ (j0 : Nat) (j1 : Nat) (j2 : Int32) (j3 : Nat → Int32) (j4 : Nat → Int32) (j5 : Nat → Int32) (j6 : Nat → Int32) (j7 : Nat → Int32) (j8 : Nat → Int32) (j9 : Nat → Int32), W = [cob lh 10 [.ref ak, .ref t, .ref yt, .ref xt, .int isk, .ref ltp, .ref lrw, .int (nI rc), .ref lac, .ref lsh, .ref lhh, .ref lhg, .ref lhr], cob t 8 [.ref ak, .ref tl, .ref tf, .ref ta, .ref tk, .ref tg, .ref tp, .ref tm, .int (nI cnt), .int (nI stp), .int z], cin g tl 4 laws, cin g tf 6 fogs, cin g ta 6 arms, cin g tk 8 kinds, cin g tg 8 faiths, cin g tp 8 places, cin g tm 8 moved, cob xt 8 [.ref ak, .ref xtl, .ref xtf, .ref xta, .ref xtk, .ref xtg, .ref xtp, .ref xtm, .int (nI j0), .int (nI j1), .int j2], cin g xtl 4 j3, cin g xtf 6 j4, cin g xta 6 j5, cin g xtk 8 j6, cin g xtg 8 j7, cin g xtp 8 j8, cin g xtm 8 j9, ckd g ak 6 (kdf k0 k1 k2 k3 k4 k5), cob k0 4 [], cob k1 2 [], cob k2 5 [], cob k3 6 [], cob k4 9 [], cob k5 1 []]) := by
  refine mtR.of (cc := cX10_sits) (nL := 2) (ret := (some .int)) (own := RX10) (by decide +kernel) rfl rfl (Nat.le_of_ble_eq_true rfl) (fun p e s m below meth c hf hr hlk _ hk hst hw ls hl => ?_)
  have hx := hf.1
  have hb := hf.2.1
  have hts := hf.2.2.2.2
  have hl : lv_has ls 2 [(0, .ref lh), (1, .int goer)] := hl
  have hinX10 : ∀ w ∈ u_ws RX10 TX10 13, w ∈ wsX10_sits := fun w h => List.mem_cons_of_mem _ (List.mem_append_left _ (List.mem_append_right _ h))
  have w_0 : Cond.fieldLink RX10 36 "LightMan" "now" "LLightMan$Tunnel;" ∈ wsX10_sits := List.mem_of_getElem? (i := 1) rfl
  refine lv_aload_n hx hb dX10_sits_0 rfl (lv_at hl 0 rfl) ?_
  refine rg hf hk hw hinX10 0 rfl rfl 1 (by decide) w_0 rfl dX10_sits_1 ?_
  refine lv_iload_n hx hb dX10_sits_4 rfl (lv_at hl 1 rfl) ?_
  refine mcV hf hk hst hw (c_X8_has l g t tl tf ta tk tg tp tm cnt stp z ak goer) (cwV 1 hts gX10_sits_X8_has rfl rfl rfl hdV_X8_has ⟨Nat.le_of_ble_eq_true rfl, Nat.le_of_ble_eq_true rfl⟩) [1] rfl rfl 1 rfl rfl rfl hl.1 rfl (Nat.le_of_ble_eq_true rfl) dX10_sits_5 ⟨Nat.zero_le _, Nat.zero_le _⟩ (W' := [cob lh 10 [.ref ak, .ref t, .ref yt, .ref xt, .int isk, .ref ltp, .ref lrw, .int (nI rc), .ref lac, .ref lsh, .ref lhh, .ref lhg, .ref lhr], cob t 8 [.ref ak, .ref tl, .ref tf, .ref ta, .ref tk, .ref tg, .ref tp, .ref tm, .int (nI cnt), .int (nI stp), .int z], cin g tl 4 laws, cin g tf 6 fogs, cin g ta 6 arms, cin g tk 8 kinds, cin g tg 8 faiths, cin g tp 8 places, cin g tm 8 moved, cob xt 8 [.ref ak, .ref xtl, .ref xtf, .ref xta, .ref xtk, .ref xtg, .ref xtp, .ref xtm, .int (nI xcnt), .int (nI xstp), .int xz], cin g xtl 4 xlaws, cin g xtf 6 xfogs, cin g xta 6 xarms, cin g xtk 8 xkinds, cin g xtg 8 xfaiths, cin g xtp 8 xplaces, cin g xtm 8 xmoved, ckd g ak 6 (kdf k0 k1 k2 k3 k4 k5), cob k0 4 [], cob k1 2 [], cob k2 5 [], cob k3 6 [], cob k4 9 [], cob k5 1 []]) rfl (fun H locs hw => ?_)
  refine lv_if_eq (tgt := 20) hx hb dX10_sits_8 (by decide) (fun c_1 => ?_) (fun c_1 => ?_)
  · refine lv_iconst (v := (-1)) hx hb dX10_sits_20 (by decide) ?_
    exact rE_i hf hr hlk hw ⟨congrArg some (by simp only [f_X10_sits, if_pos c_1]), _, _, _, _, _, _, _, _, _, _, rfl⟩ (show ([lh, t, tl, tf, ta, tk, tg, tp, tm, xt, xtl, xtf, xta, xtk, xtg, xtp, xtm, ak, k0, k1, k2, k3, k4, k5] : List Nat) = [lh, t, tl, tf, ta, tk, tg, tp, tm, xt, xtl, xtf, xta, xtk, xtg, xtp, xtm, ak, k0, k1, k2, k3, k4, k5] from rfl) dX10_sits_21
  · have hg := has_n hc8 c_1
    have hg2 := hg.2
    refine lv_aload_n hx hb dX10_sits_11 rfl (lv_at hl 0 rfl) ?_
    refine lv_iload_n hx hb dX10_sits_12 rfl (lv_at hl 1 rfl) ?_
    refine lv_tope (y := nI (ix goer)) hg.1 ?_
    refine lv_iconst (v := 2) hx hb dX10_sits_13 (by decide) ?_
    refine mcVF hf hk hst hw (c_X10_firstStepOf l g lh t tl tf ta tk tg tp tm laws fogs arms kinds faiths places moved cnt stp z xt xtl xtf xta xtk xtg xtp xtm xlaws xfogs xarms xkinds xfaiths xplaces xmoved xcnt xstp xz yt ak k0 k1 k2 k3 k4 k5 isk ltp lrw rc lac lsh lhh lhg lhr (ix goer) 2 (by omega) (by omega) (by assumption) (hg2)) (cwV 2 hts gX10_sits_X10_firstStepOf rfl rfl rfl hdV_X10_firstStepOf ⟨Nat.le_of_ble_eq_true rfl, Nat.le_of_ble_eq_true rfl⟩) 0 rfl rfl rfl hl.1 rfl (Nat.le_of_ble_eq_true rfl) dX10_sits_14 ⟨Nat.zero_le _, Nat.zero_le _⟩ (fun rv ws2 hPo H locs hw => ?_)
    obtain ⟨rfl, u2_j0, u2_j1, u2_j2, u2_j3, u2_j4, u2_j5, u2_j6, u2_j7, u2_j8, u2_j9, rfl⟩ := hPo
    refine lv_goto (tgt := 21) hx hb dX10_sits_17 (by decide) ?_
    exact rE_i hf hr hlk hw ⟨congrArg some (by simp only [f_X10_sits, if_neg c_1]), _, _, _, _, _, _, _, _, _, _, rfl⟩ (show ([lh, t, tl, tf, ta, tk, tg, tp, tm, xt, xtl, xtf, xta, xtk, xtg, xtp, xtm, ak, k0, k1, k2, k3, k4, k5] : List Nat) = [lh, t, tl, tf, ta, tk, tg, tp, tm, xt, xtl, xtf, xta, xtk, xtg, xtp, xtm, ak, k0, k1, k2, k3, k4, k5] from rfl) dX10_sits_21
def f_X10_back (laws : Nat → Int32) (fogs : Nat → Int32) (arms : Nat → Int32) (kinds : Nat → Int32) (faiths : Nat → Int32) (places : Nat → Int32) (moved : Nat → Int32) (cnt : Nat) (stp : Nat) (goer : Int32) : Int32 := if (f_X8_has cnt goer) = 0 then (-1) else (fsR (itD laws fogs arms (kinds (ix goer)) stp (faiths (ix goer)) (places (ix goer)) (moved (ix goer))) 3 60 0)
abbrev rmX10_back : Room := { frames := 6, cells := 0, slots := 0, locals := 140 }
set_option maxHeartbeats 4000000 in
set_option maxRecDepth 100000 in
theorem c_X10_back (l : Launch) (g : GG) (lh : Nat) (t : Nat) (tl : Nat) (tf : Nat) (ta : Nat) (tk : Nat) (tg : Nat) (tp : Nat) (tm : Nat) (laws : Nat → Int32) (fogs : Nat → Int32) (arms : Nat → Int32) (kinds : Nat → Int32) (faiths : Nat → Int32) (places : Nat → Int32) (moved : Nat → Int32) (cnt : Nat) (stp : Nat) (z : Int32) (xt : Nat) (xtl : Nat) (xtf : Nat) (xta : Nat) (xtk : Nat) (xtg : Nat) (xtp : Nat) (xtm : Nat) (xlaws : Nat → Int32) (xfogs : Nat → Int32) (xarms : Nat → Int32) (xkinds : Nat → Int32) (xfaiths : Nat → Int32) (xplaces : Nat → Int32) (xmoved : Nat → Int32) (xcnt : Nat) (xstp : Nat) (xz : Int32) (yt : Nat) (ak : Nat) (k0 : Nat) (k1 : Nat) (k2 : Nat) (k3 : Nat) (k4 : Nat) (k5 : Nat) (isk : Int32) (ltp : Nat) (lrw : Nat) (rc : Nat) (lac : Nat) (lsh : Nat) (lhh : Nat) (lhg : Nat) (lhr : Nat) (goer : Int32) (hc8 : cnt ≤ 8) (hsp : stp < 2 ^ 29) (hkd : ∀ j, j < cnt → isK (kinds j)) : mtR l g yX10_back wsX10_back rmX10_back [.ref lh, .int goer] [cob lh 10 [.ref ak, .ref t, .ref yt, .ref xt, .int isk, .ref ltp, .ref lrw, .int (nI rc), .ref lac, .ref lsh, .ref lhh, .ref lhg, .ref lhr], cob t 8 [.ref ak, .ref tl, .ref tf, .ref ta, .ref tk, .ref tg, .ref tp, .ref tm, .int (nI cnt), .int (nI stp), .int z], cin g tl 4 laws, cin g tf 6 fogs, cin g ta 6 arms, cin g tk 8 kinds, cin g tg 8 faiths, cin g tp 8 places, cin g tm 8 moved, cob xt 8 [.ref ak, .ref xtl, .ref xtf, .ref xta, .ref xtk, .ref xtg, .ref xtp, .ref xtm, .int (nI xcnt), .int (nI xstp), .int xz], cin g xtl 4 xlaws, cin g xtf 6 xfogs, cin g xta 6 xarms, cin g xtk 8 xkinds, cin g xtg 8 xfaiths, cin g xtp 8 xplaces, cin g xtm 8 xmoved, ckd g ak 6 (kdf k0 k1 k2 k3 k4 k5), cob k0 4 [], cob k1 2 [], cob k2 5 [], cob k3 6 [], cob k4 9 [], cob k5 1 []] (fun rv W => rv = (some (.int (f_X10_back laws fogs arms kinds faiths places moved cnt stp goer))) ∧ ∃ (j0 : Nat) (j1 : Nat) (j2 : Int32) (j3 : Nat → Int32) (j4 : Nat → Int32) (j5 : Nat → Int32) (j6 : Nat → Int32) (j7 : Nat → Int32) (j8 : Nat → Int32) (j9 : Nat → Int32), W = [cob lh 10 [.ref ak, .ref t, .ref yt, .ref xt, .int isk, .ref ltp, .ref lrw, .int (nI rc), .ref lac, .ref lsh, .ref lhh, .ref lhg, .ref lhr], cob t 8 [.ref ak, .ref tl, .ref tf, .ref ta, .ref tk, .ref tg, .ref tp, .ref tm, .int (nI cnt), .int (nI stp), .int z], cin g tl 4 laws, cin g tf 6 fogs, cin g ta 6 arms, cin g tk 8 kinds, cin g tg 8 faiths, cin g tp 8 places, cin g tm 8 moved, cob xt 8 [.ref ak, .ref xtl, .ref xtf, .ref xta, .ref xtk, .ref xtg, .ref xtp, .ref xtm, .int (nI j0), .int (nI j1), .int j2], cin g xtl 4 j3, cin g xtf 6 j4, cin g xta 6 j5, cin g xtk 8 j6, cin g xtg 8 j7, cin g xtp 8 j8, cin g xtm 8 j9, ckd g ak 6 (kdf k0 k1 k2 k3 k4 k5), cob k0 4 [], cob k1 2 [], cob k2 5 [], cob k3 6 [], cob k4 9 [], cob k5 1 []]) := by
  refine mtR.of (cc := cX10_back) (nL := 2) (ret := (some .int)) (own := RX10) (by decide +kernel) rfl rfl (Nat.le_of_ble_eq_true rfl) (fun p e s m below meth c hf hr hlk _ hk hst hw ls hl => ?_)
  have hx := hf.1
  have hb := hf.2.1
  have hts := hf.2.2.2.2
  have hl : lv_has ls 2 [(0, .ref lh), (1, .int goer)] := hl
  have hinX10 : ∀ w ∈ u_ws RX10 TX10 13, w ∈ wsX10_back := fun w h => List.mem_cons_of_mem _ (List.mem_append_left _ (List.mem_append_right _ h))
  have w_0 : Cond.fieldLink RX10 36 "LightMan" "now" "LLightMan$Tunnel;" ∈ wsX10_back := List.mem_of_getElem? (i := 1) rfl
  refine lv_aload_n hx hb dX10_back_0 rfl (lv_at hl 0 rfl) ?_
  refine rg hf hk hw hinX10 0 rfl rfl 1 (by decide) w_0 rfl dX10_back_1 ?_
  refine lv_iload_n hx hb dX10_back_4 rfl (lv_at hl 1 rfl) ?_
  refine mcV hf hk hst hw (c_X8_has l g t tl tf ta tk tg tp tm cnt stp z ak goer) (cwV 1 hts gX10_back_X8_has rfl rfl rfl hdV_X8_has ⟨Nat.le_of_ble_eq_true rfl, Nat.le_of_ble_eq_true rfl⟩) [1] rfl rfl 1 rfl rfl rfl hl.1 rfl (Nat.le_of_ble_eq_true rfl) dX10_back_5 ⟨Nat.zero_le _, Nat.zero_le _⟩ (W' := [cob lh 10 [.ref ak, .ref t, .ref yt, .ref xt, .int isk, .ref ltp, .ref lrw, .int (nI rc), .ref lac, .ref lsh, .ref lhh, .ref lhg, .ref lhr], cob t 8 [.ref ak, .ref tl, .ref tf, .ref ta, .ref tk, .ref tg, .ref tp, .ref tm, .int (nI cnt), .int (nI stp), .int z], cin g tl 4 laws, cin g tf 6 fogs, cin g ta 6 arms, cin g tk 8 kinds, cin g tg 8 faiths, cin g tp 8 places, cin g tm 8 moved, cob xt 8 [.ref ak, .ref xtl, .ref xtf, .ref xta, .ref xtk, .ref xtg, .ref xtp, .ref xtm, .int (nI xcnt), .int (nI xstp), .int xz], cin g xtl 4 xlaws, cin g xtf 6 xfogs, cin g xta 6 xarms, cin g xtk 8 xkinds, cin g xtg 8 xfaiths, cin g xtp 8 xplaces, cin g xtm 8 xmoved, ckd g ak 6 (kdf k0 k1 k2 k3 k4 k5), cob k0 4 [], cob k1 2 [], cob k2 5 [], cob k3 6 [], cob k4 9 [], cob k5 1 []]) rfl (fun H locs hw => ?_)
  refine lv_if_eq (tgt := 20) hx hb dX10_back_8 (by decide) (fun c_1 => ?_) (fun c_1 => ?_)
  · refine lv_iconst (v := (-1)) hx hb dX10_back_20 (by decide) ?_
    exact rE_i hf hr hlk hw ⟨congrArg some (by simp only [f_X10_back, if_pos c_1]), _, _, _, _, _, _, _, _, _, _, rfl⟩ (show ([lh, t, tl, tf, ta, tk, tg, tp, tm, xt, xtl, xtf, xta, xtk, xtg, xtp, xtm, ak, k0, k1, k2, k3, k4, k5] : List Nat) = [lh, t, tl, tf, ta, tk, tg, tp, tm, xt, xtl, xtf, xta, xtk, xtg, xtp, xtm, ak, k0, k1, k2, k3, k4, k5] from rfl) dX10_back_21
  · have hg := has_n hc8 c_1
    have hg2 := hg.2
    refine lv_aload_n hx hb dX10_back_11 rfl (lv_at hl 0 rfl) ?_
    refine lv_iload_n hx hb dX10_back_12 rfl (lv_at hl 1 rfl) ?_
    refine lv_tope (y := nI (ix goer)) hg.1 ?_
    refine lv_iconst (v := 3) hx hb dX10_back_13 (by decide) ?_
    refine mcVF hf hk hst hw (c_X10_firstStepOf l g lh t tl tf ta tk tg tp tm laws fogs arms kinds faiths places moved cnt stp z xt xtl xtf xta xtk xtg xtp xtm xlaws xfogs xarms xkinds xfaiths xplaces xmoved xcnt xstp xz yt ak k0 k1 k2 k3 k4 k5 isk ltp lrw rc lac lsh lhh lhg lhr (ix goer) 3 (by omega) (by omega) (by assumption) (hg2)) (cwV 2 hts gX10_back_X10_firstStepOf rfl rfl rfl hdV_X10_firstStepOf ⟨Nat.le_of_ble_eq_true rfl, Nat.le_of_ble_eq_true rfl⟩) 0 rfl rfl rfl hl.1 rfl (Nat.le_of_ble_eq_true rfl) dX10_back_14 ⟨Nat.zero_le _, Nat.zero_le _⟩ (fun rv ws2 hPo H locs hw => ?_)
    obtain ⟨rfl, u2_j0, u2_j1, u2_j2, u2_j3, u2_j4, u2_j5, u2_j6, u2_j7, u2_j8, u2_j9, rfl⟩ := hPo
    refine lv_goto (tgt := 21) hx hb dX10_back_17 (by decide) ?_
    exact rE_i hf hr hlk hw ⟨congrArg some (by simp only [f_X10_back, if_neg c_1]), _, _, _, _, _, _, _, _, _, _, rfl⟩ (show ([lh, t, tl, tf, ta, tk, tg, tp, tm, xt, xtl, xtf, xta, xtk, xtg, xtp, xtm, ak, k0, k1, k2, k3, k4, k5] : List Nat) = [lh, t, tl, tf, ta, tk, tg, tp, tm, xt, xtl, xtf, xta, xtk, xtg, xtp, xtm, ak, k0, k1, k2, k3, k4, k5] from rfl) dX10_back_21
