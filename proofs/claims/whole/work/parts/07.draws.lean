abbrev rmX8_draw : Room := { frames := 0, cells := 0, slots := 0, locals := 0 }
set_option maxHeartbeats 4000000 in
set_option maxRecDepth 100000 in
theorem c_X8_draw (l : Launch) (g : GG) (t : Nat) (tl : Nat) (tf : Nat) (ta : Nat) (tk : Nat) (tg : Nat) (tp : Nat) (tm : Nat) (cnt : Nat) (stp : Nat) (z : Int32) (ak : Nat) : mt l g yX8_draw wsX8_draw rmX8_draw [.ref t] [cob t 8 [.ref ak, .ref tl, .ref tf, .ref ta, .ref tk, .ref tg, .ref tp, .ref tm, .int (nI cnt), .int (nI stp), .int z]] (some (.int (drV z))) [cob t 8 [.ref ak, .ref tl, .ref tf, .ref ta, .ref tk, .ref tg, .ref tp, .ref tm, .int (nI cnt), .int (nI stp), .int (drZ z)]] := by
  refine mt.of (cc := cX8_draw) (nL := 1) (ret := (some .int)) (own := RX8) (by decide +kernel) rfl rfl (show ([t] : List Nat) = [t] from rfl) (Nat.le_of_ble_eq_true rfl) (fun p e s m below meth c hf hr hlk _ hk hst hw ls hl => ?_)
  have hx := hf.1
  have hb := hf.2.1
  have hts := hf.2.2.2.2
  have hl : lv_has ls 1 [(0, .ref t)] := hl
  have hinX8 : ∀ w ∈ u_ws RX8 TX8 11, w ∈ wsX8_draw := fun w h => List.mem_cons_of_mem _ (List.mem_append_right _ h)
  have w_0 : Cond.fieldLink RX8 33 "LightMan$Tunnel" "z" "I" ∈ wsX8_draw := List.mem_of_getElem? (i := 1) rfl
  have w_1 : Cond.constant RX8 107 (1103515245) ∈ wsX8_draw := List.mem_of_getElem? (i := 2) rfl
  refine lv_aload_n hx hb dX8_draw_0 rfl (lv_at hl 0 rfl) ?_
  refine lv_aload_n hx hb dX8_draw_1 rfl (lv_at hl 0 rfl) ?_
  refine rg hf hk hw hinX8 0 rfl rfl 10 (by decide) w_0 rfl dX8_draw_2 ?_
  refine lv_ldc hx hb hf.2.2.2.1 (hts _ w_1) dX8_draw_5 ?_
  refine lv_imul hx hb dX8_draw_7 ?_
  refine lv_sipush (v := 12345) hx hb dX8_draw_8 (by decide) ?_
  refine lv_iadd hx hb dX8_draw_11 ?_
  refine lv_tope (y := drZ z) (by simp only [drZ]) ?_
  refine rp hf hk hw hinX8 tyX8 tyX8_ok nmX8 0 rfl rfl 10 (by decide) w_0 rfl (rfl) rfl (Nat.le_of_ble_eq_true rfl) dX8_draw_12 (W' := [cob t 8 [.ref ak, .ref tl, .ref tf, .ref ta, .ref tk, .ref tg, .ref tp, .ref tm, .int (nI cnt), .int (nI stp), .int (drZ z)]]) rfl (fun H locs hw => ?_)
  refine lv_aload_n hx hb dX8_draw_15 rfl (lv_at hl 0 rfl) ?_
  refine rg hf hk hw hinX8 0 rfl rfl 10 (by decide) w_0 rfl dX8_draw_16 ?_
  refine lv_bipush (v := 16) hx hb dX8_draw_19 (by decide) ?_
  refine lv_iushr hx hb dX8_draw_21 rfl ?_
  refine lv_tope (y := drV z) (by simp only [drV]) ?_
  exact re_i hf hr hlk hw (rfl) (rfl) dX8_draw_22
theorem hdV_X8_goStep : yX8_goStep.cls = RX8 ∧ yX8_goStep.cls ≠ "java/lang/invoke/MethodHandle" ∧ yX8_goStep.cls ≠ "java/lang/invoke/VarHandle" ∧ (parseMethodDescriptor yX8_goStep.desc).map (fun d => d.parameters.length) = some 0 := by decide +kernel
theorem hdV_X8_draw : yX8_draw.cls = RX8 ∧ yX8_draw.cls ≠ "java/lang/invoke/MethodHandle" ∧ yX8_draw.cls ≠ "java/lang/invoke/VarHandle" ∧ (parseMethodDescriptor yX8_draw.desc).map (fun d => d.parameters.length) = some 0 := by decide +kernel
abbrev rmX8_goStepByDraws : Room := { frames := 6, cells := 0, slots := 0, locals := 138 }
set_option maxHeartbeats 4000000 in
set_option maxRecDepth 100000 in
theorem c_X8_goStepByDraws (l : Launch) (g : GG) (t : Nat) (tl : Nat) (tf : Nat) (ta : Nat) (tk : Nat) (tg : Nat) (tp : Nat) (tm : Nat) (laws : Nat → Int32) (fogs : Nat → Int32) (arms : Nat → Int32) (kinds : Nat → Int32) (faiths : Nat → Int32) (places : Nat → Int32) (moved : Nat → Int32) (cnt : Nat) (stp : Nat) (z : Int32) (ak : Nat) (k0 : Nat) (k1 : Nat) (k2 : Nat) (k3 : Nat) (k4 : Nat) (k5 : Nat) (hc8 : cnt ≤ 8) (hsp : stp < 2 ^ 30) (hkd : ∀ j, j < cnt → isK (kinds j)) : mt l g yX8_goStepByDraws wsX8_goStepByDraws rmX8_goStepByDraws [.ref t] [cob t 8 [.ref ak, .ref tl, .ref tf, .ref ta, .ref tk, .ref tg, .ref tp, .ref tm, .int (nI cnt), .int (nI stp), .int z], cin g tl 4 laws, cin g tf 6 fogs, cin g ta 6 arms, cin g tk 8 kinds, cin g tg 8 faiths, cin g tp 8 places, cin g tm 8 moved, ckd g ak 6 (kdf k0 k1 k2 k3 k4 k5), cob k0 4 [], cob k1 2 [], cob k2 5 [], cob k3 6 [], cob k4 9 [], cob k5 1 []] none [cob t 8 [.ref ak, .ref tl, .ref tf, .ref ta, .ref tk, .ref tg, .ref tp, .ref tm, .int (nI cnt), .int (nI (stp + 1)), .int (drZ2 z cnt)], cin g tl 4 laws, cin g tf 6 fogs, cin g ta 6 arms, cin g tk 8 kinds, cin g tg 8 (goF laws fogs arms stp kinds (drF laws faiths z cnt) places cnt), cin g tp 8 (goP laws fogs arms stp kinds (drF laws faiths z cnt) places cnt), cin g tm 8 (goM laws fogs arms stp kinds places moved cnt), ckd g ak 6 (kdf k0 k1 k2 k3 k4 k5), cob k0 4 [], cob k1 2 [], cob k2 5 [], cob k3 6 [], cob k4 9 [], cob k5 1 []] := by
  refine mt.of (cc := cX8_goStepByDraws) (nL := 2) (ret := none) (own := RX8) (by decide +kernel) rfl rfl (show ([t, tl, tf, ta, tk, tg, tp, tm, ak, k0, k1, k2, k3, k4, k5] : List Nat) = [t, tl, tf, ta, tk, tg, tp, tm, ak, k0, k1, k2, k3, k4, k5] from rfl) (Nat.le_of_ble_eq_true rfl) (fun p e s m below meth c hf hr hlk _ hk hst hw ls hl => ?_)
  have hx := hf.1
  have hb := hf.2.1
  have hts := hf.2.2.2.2
  have hl : lv_has ls 2 [(0, .ref t)] := hl
  have hinX8 : ∀ w ∈ u_ws RX8 TX8 11, w ∈ wsX8_goStepByDraws := fun w h => List.mem_cons_of_mem _ (List.mem_append_right _ h)
  have w_0 : Cond.fieldLink RX8 47 "LightMan$Tunnel" "count" "I" ∈ wsX8_goStepByDraws := List.mem_of_getElem? (i := 1) rfl
  have w_1 : Cond.fieldLink RX8 9 "LightMan$Tunnel" "laws" "[I" ∈ wsX8_goStepByDraws := List.mem_of_getElem? (i := 2) rfl
  have w_2 : Cond.fieldLink RX8 24 "LightMan$Tunnel" "faiths" "[I" ∈ wsX8_goStepByDraws := List.mem_of_getElem? (i := 3) rfl
  refine lv_aload_n hx hb dX8_goStepByDraws_0 rfl (lv_at hl 0 rfl) ?_
  refine rg hf hk hw hinX8 0 rfl rfl 8 (by decide) w_0 rfl dX8_goStepByDraws_1 ?_
  refine lv_if_le (tgt := 48) hx hb dX8_goStepByDraws_4 (by decide) (fun c_1 => ?_) (fun c_1 => ?_)
  · refine lv_aload_n hx hb dX8_goStepByDraws_48 rfl (lv_at hl 0 rfl) ?_
    refine mcV hf hk hst hw (c_X8_goStep l g t tl tf ta tk tg tp tm laws fogs arms kinds faiths places moved cnt stp z ak k0 k1 k2 k3 k4 k5 (by omega) (by omega) (by assumption)) (cwV 0 hts gX8_goStepByDraws_X8_goStep rfl rfl rfl hdV_X8_goStep ⟨Nat.le_of_ble_eq_true rfl, Nat.le_of_ble_eq_true rfl⟩) [0, 1, 2, 3, 4, 5, 6, 7, 8, 9, 10, 11, 12, 13, 14] rfl rfl 0 rfl rfl rfl hl.1 rfl (Nat.le_of_ble_eq_true rfl) dX8_goStepByDraws_49 ⟨Nat.zero_le _, Nat.zero_le _⟩ (W' := [cob t 8 [.ref ak, .ref tl, .ref tf, .ref ta, .ref tk, .ref tg, .ref tp, .ref tm, .int (nI cnt), .int (nI (stp + 1)), .int z], cin g tl 4 laws, cin g tf 6 fogs, cin g ta 6 arms, cin g tk 8 kinds, cin g tg 8 (goF laws fogs arms stp kinds faiths places cnt), cin g tp 8 (goP laws fogs arms stp kinds faiths places cnt), cin g tm 8 (goM laws fogs arms stp kinds places moved cnt), ckd g ak 6 (kdf k0 k1 k2 k3 k4 k5), cob k0 4 [], cob k1 2 [], cob k2 5 [], cob k3 6 [], cob k4 9 [], cob k5 1 []]) rfl (fun H locs hw => ?_)
    exact re_v hf hr hlk hw (by simp only [drF, drZ2, if_pos c_1]) dX8_goStepByDraws_52
  · have h0 : 0 < cnt := Nat.pos_of_ne_zero (fun h => c_1 (by rw [h]; exact Int32.le_refl _))
    have hlt : drN z % cnt < cnt := Nat.mod_lt _ h0
    refine lv_aload_n hx hb dX8_goStepByDraws_7 rfl (lv_at hl 0 rfl) ?_
    refine mcV hf hk hst hw (c_X8_draw l g t tl tf ta tk tg tp tm cnt stp z ak) (cwV 0 hts gX8_goStepByDraws_X8_draw rfl rfl rfl hdV_X8_draw ⟨Nat.le_of_ble_eq_true rfl, Nat.le_of_ble_eq_true rfl⟩) [0] rfl rfl 0 rfl rfl rfl hl.1 rfl (Nat.le_of_ble_eq_true rfl) dX8_goStepByDraws_8 ⟨Nat.zero_le _, Nat.zero_le _⟩ (W' := [cob t 8 [.ref ak, .ref tl, .ref tf, .ref ta, .ref tk, .ref tg, .ref tp, .ref tm, .int (nI cnt), .int (nI stp), .int (drZ z)], cin g tl 4 laws, cin g tf 6 fogs, cin g ta 6 arms, cin g tk 8 kinds, cin g tg 8 faiths, cin g tp 8 places, cin g tm 8 moved, ckd g ak 6 (kdf k0 k1 k2 k3 k4 k5), cob k0 4 [], cob k1 2 [], cob k2 5 [], cob k3 6 [], cob k4 9 [], cob k5 1 []]) rfl (fun H locs hw => ?_)
    refine lv_aload_n hx hb dX8_goStepByDraws_11 rfl (lv_at hl 0 rfl) ?_
    refine rg hf hk hw hinX8 0 rfl rfl 8 (by decide) w_0 rfl dX8_goStepByDraws_12 ?_
    refine lv_irem hx hb dX8_goStepByDraws_15 (fun h => c_1 (by rw [h]; exact Int32.le_refl _)) ?_
    refine lv_tope (y := nI (drN z % cnt)) (drM z h0 (by omega)) ?_
    refine lv_istore_n (lv' := [(1, .int (nI (drN z % cnt))), (0, .ref t)]) hx hb dX8_goStepByDraws_16 rfl hl (by decide) rfl (fun ls hl => ?_)
    refine lv_aload_n hx hb dX8_goStepByDraws_17 rfl (lv_at hl 1 rfl) ?_
    refine mcV hf hk hst hw (c_X8_draw l g t tl tf ta tk tg tp tm cnt stp (drZ z) ak) (cwV 0 hts gX8_goStepByDraws_X8_draw rfl rfl rfl hdV_X8_draw ⟨Nat.le_of_ble_eq_true rfl, Nat.le_of_ble_eq_true rfl⟩) [0] rfl rfl 0 rfl rfl rfl hl.1 rfl (Nat.le_of_ble_eq_true rfl) dX8_goStepByDraws_18 ⟨Nat.zero_le _, Nat.zero_le _⟩ (W' := [cob t 8 [.ref ak, .ref tl, .ref tf, .ref ta, .ref tk, .ref tg, .ref tp, .ref tm, .int (nI cnt), .int (nI stp), .int (drZ (drZ z))], cin g tl 4 laws, cin g tf 6 fogs, cin g ta 6 arms, cin g tk 8 kinds, cin g tg 8 faiths, cin g tp 8 places, cin g tm 8 moved, ckd g ak 6 (kdf k0 k1 k2 k3 k4 k5), cob k0 4 [], cob k1 2 [], cob k2 5 [], cob k3 6 [], cob k4 9 [], cob k5 1 []]) rfl (fun H locs hw => ?_)
    refine lv_bipush (v := 100) hx hb dX8_goStepByDraws_21 (by decide) ?_
    refine lv_irem hx hb dX8_goStepByDraws_23 (by decide) ?_
    refine lv_tope (y := nI (drN (drZ z) % 100)) (drM (drZ z) (c := 100) (by decide) (by decide)) ?_
    refine lv_aload_n hx hb dX8_goStepByDraws_24 rfl (lv_at hl 1 rfl) ?_
    refine rg hf hk hw hinX8 0 rfl rfl 1 (by decide) w_1 rfl dX8_goStepByDraws_25 ?_
    refine lv_iconst (v := 3) hx hb dX8_goStepByDraws_28 (by decide) ?_
    refine rij hf hk hw 1 rfl (j := 3) (vp_in_nI (n := 3) (by omega) (by omega)) (rfl) dX8_goStepByDraws_29 ?_
    refine lv_icmp_ge (tgt := 48) hx hb dX8_goStepByDraws_30 (by decide) (fun c_2 => ?_) (fun c_2 => ?_)
    · refine lv_aload_n hx hb dX8_goStepByDraws_48 rfl (lv_at hl 1 rfl) ?_
      refine mcV hf hk hst hw (c_X8_goStep l g t tl tf ta tk tg tp tm laws fogs arms kinds faiths places moved cnt stp (drZ (drZ z)) ak k0 k1 k2 k3 k4 k5 (by omega) (by omega) (by assumption)) (cwV 0 hts gX8_goStepByDraws_X8_goStep rfl rfl rfl hdV_X8_goStep ⟨Nat.le_of_ble_eq_true rfl, Nat.le_of_ble_eq_true rfl⟩) [0, 1, 2, 3, 4, 5, 6, 7, 8, 9, 10, 11, 12, 13, 14] rfl rfl 0 rfl rfl rfl hl.1 rfl (Nat.le_of_ble_eq_true rfl) dX8_goStepByDraws_49 ⟨Nat.zero_le _, Nat.zero_le _⟩ (W' := [cob t 8 [.ref ak, .ref tl, .ref tf, .ref ta, .ref tk, .ref tg, .ref tp, .ref tm, .int (nI cnt), .int (nI (stp + 1)), .int (drZ (drZ z))], cin g tl 4 laws, cin g tf 6 fogs, cin g ta 6 arms, cin g tk 8 kinds, cin g tg 8 (goF laws fogs arms stp kinds faiths places cnt), cin g tp 8 (goP laws fogs arms stp kinds faiths places cnt), cin g tm 8 (goM laws fogs arms stp kinds places moved cnt), ckd g ak 6 (kdf k0 k1 k2 k3 k4 k5), cob k0 4 [], cob k1 2 [], cob k2 5 [], cob k3 6 [], cob k4 9 [], cob k5 1 []]) rfl (fun H locs hw => ?_)
      exact re_v hf hr hlk hw (by simp only [drF, drZ2, if_neg c_1, if_pos c_2]) dX8_goStepByDraws_52
    · refine lv_aload_n hx hb dX8_goStepByDraws_33 rfl (lv_at hl 1 rfl) ?_
      refine rg hf hk hw hinX8 0 rfl rfl 5 (by decide) w_2 rfl dX8_goStepByDraws_34 ?_
      refine lv_iload_n hx hb dX8_goStepByDraws_37 rfl (lv_at hl 0 rfl) ?_
      refine lv_bipush (v := 99) hx hb dX8_goStepByDraws_38 (by decide) ?_
      refine lv_aload_n hx hb dX8_goStepByDraws_40 rfl (lv_at hl 1 rfl) ?_
      refine rg hf hk hw hinX8 0 rfl rfl 5 (by decide) w_2 rfl dX8_goStepByDraws_41 ?_
      refine lv_iload_n hx hb dX8_goStepByDraws_44 rfl (lv_at hl 0 rfl) ?_
      refine rij hf hk hw 5 rfl (j := drN z % cnt) (vp_in_nI (by omega) (by omega)) (nI_clamp (by omega)) dX8_goStepByDraws_45 ?_
      refine lv_isub hx hb dX8_goStepByDraws_46 ?_
      refine rsj hf hk hw 5 rfl (j := drN z % cnt) (vp_in_nI (by omega) (by omega)) (nI_clamp (by omega)) dX8_goStepByDraws_47 (W' := [cob t 8 [.ref ak, .ref tl, .ref tf, .ref ta, .ref tk, .ref tg, .ref tp, .ref tm, .int (nI cnt), .int (nI stp), .int (drZ (drZ z))], cin g tl 4 laws, cin g tf 6 fogs, cin g ta 6 arms, cin g tk 8 kinds, cin g tg 8 (upd faiths (drN z % cnt) (99 - (faiths (drN z % cnt)))), cin g tp 8 places, cin g tm 8 moved, ckd g ak 6 (kdf k0 k1 k2 k3 k4 k5), cob k0 4 [], cob k1 2 [], cob k2 5 [], cob k3 6 [], cob k4 9 [], cob k5 1 []]) rfl (fun H locs hw => ?_)
      refine lv_aload_n hx hb dX8_goStepByDraws_48 rfl (lv_at hl 1 rfl) ?_
      refine mcV hf hk hst hw (c_X8_goStep l g t tl tf ta tk tg tp tm laws fogs arms kinds (upd faiths (drN z % cnt) (99 - (faiths (drN z % cnt)))) places moved cnt stp (drZ (drZ z)) ak k0 k1 k2 k3 k4 k5 (by omega) (by omega) (by assumption)) (cwV 0 hts gX8_goStepByDraws_X8_goStep rfl rfl rfl hdV_X8_goStep ⟨Nat.le_of_ble_eq_true rfl, Nat.le_of_ble_eq_true rfl⟩) [0, 1, 2, 3, 4, 5, 6, 7, 8, 9, 10, 11, 12, 13, 14] rfl rfl 0 rfl rfl rfl hl.1 rfl (Nat.le_of_ble_eq_true rfl) dX8_goStepByDraws_49 ⟨Nat.zero_le _, Nat.zero_le _⟩ (W' := [cob t 8 [.ref ak, .ref tl, .ref tf, .ref ta, .ref tk, .ref tg, .ref tp, .ref tm, .int (nI cnt), .int (nI (stp + 1)), .int (drZ (drZ z))], cin g tl 4 laws, cin g tf 6 fogs, cin g ta 6 arms, cin g tk 8 kinds, cin g tg 8 (goF laws fogs arms stp kinds (upd faiths (drN z % cnt) (99 - (faiths (drN z % cnt)))) places cnt), cin g tp 8 (goP laws fogs arms stp kinds (upd faiths (drN z % cnt) (99 - (faiths (drN z % cnt)))) places cnt), cin g tm 8 (goM laws fogs arms stp kinds places moved cnt), ckd g ak 6 (kdf k0 k1 k2 k3 k4 k5), cob k0 4 [], cob k1 2 [], cob k2 5 [], cob k3 6 [], cob k4 9 [], cob k5 1 []]) rfl (fun H locs hw => ?_)
      exact re_v hf hr hlk hw (by simp only [drF, drZ2, if_neg c_1, if_neg c_2]) dX8_goStepByDraws_52
