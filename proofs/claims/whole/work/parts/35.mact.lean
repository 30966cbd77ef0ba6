theorem div_m1 (x : Int32) : x / (-1) = -x := by
  apply i_eq
  rw [Int32.toInt_div, i_m1, Int.tdiv_neg, Int.tdiv_one, Int32.toInt_neg]
abbrev rmX11_starts : Room := { frames := 0, cells := 0, slots := 0, locals := 0 }
set_option maxHeartbeats 4000000 in
set_option maxRecDepth 100000 in
theorem c_X11_starts (l : Launch) (g : GG) (oh : Nat) (os : Nat) (ok : Nat) (ol : Nat) (ord : Nat) (odd : Nat) (otp : Nat) (olt : Nat) (orw : Nat) (oso : Nat) (osz : Nat) (oit : Nat) (oho : Nat) (ohe : Nat) (otr : Nat) (isk : Int32) (tpd : Nat) (oat : Int32) (obg : Int32) (otk : Int32) (ovl : Int32) (rmn : Nat) (tcd : Nat) (own_ : Int32) (opt : Int32) (trc : Nat → Int32) (bb : Int32) (hbg : tcd ≤ 30) : mt l g yX11_starts wsX11_starts rmX11_starts [.ref oh, .int bb] [cob oh 11 [.ref os, .ref ok, .ref ol, .ref ord, .int isk, .ref odd, .ref otp, .int (nI tpd), .ref olt, .int oat, .int obg, .int otk, .int ovl, .ref orw, .int (nI rmn), .ref oso, .ref osz, .ref oit, .ref oho, .ref ohe, .ref otr, .int (nI tcd), .int own_, .int opt], cin g otr 30 trc] none [cob oh 11 [.ref os, .ref ok, .ref ol, .ref ord, .int isk, .ref odd, .ref otp, .int (nI tpd), .ref olt, .int oat, .int obg, .int otk, .int ovl, .ref orw, .int (nI rmn), .ref oso, .ref osz, .ref oit, .ref oho, .ref ohe, .ref otr, .int (nI (tr1 (tcd, trc) bb).1), .int own_, .int opt], cin g otr 30 ((tr1 (tcd, trc) bb).2)] := by
  refine mt.of (cc := cX11_starts) (nL := 2) (ret := none) (own := RX11) (by decide +kernel) rfl rfl (show ([oh, otr] : List Nat) = [oh, otr] from rfl) (Nat.le_of_ble_eq_true rfl) (fun p e s m below meth c hf hr hlk _ hk hst hw ls hl => ?_)
  have hx := hf.1
  have hb := hf.2.1
  have hts := hf.2.2.2.2
  have hl : lv_has ls 2 [(0, .ref oh), (1, .int bb)] := hl
  have hinX11 : ∀ w ∈ u_ws RX11 TX11 24, w ∈ wsX11_starts := fun w h => List.mem_cons_of_mem _ (List.mem_append_right _ h)
  have w_0 : Cond.fieldLink RX11 235 "LightManModel" "traced" "I" ∈ wsX11_starts := List.mem_of_getElem? (i := 1) rfl
  have w_1 : Cond.fieldLink RX11 50 "LightManModel" "trace" "[I" ∈ wsX11_starts := List.mem_of_getElem? (i := 2) rfl
  refine lv_aload_n hx hb dX11_starts_0 rfl (lv_at hl 0 rfl) ?_
  refine rg hf hk hw hinX11 0 rfl rfl 21 (by decide) w_0 rfl dX11_starts_1 ?_
  refine lv_bipush (v := 30) hx hb dX11_starts_4 (by decide) ?_
  refine lv_icmp_ge (tgt := 29) hx hb dX11_starts_6 (by decide) (fun c_1 => ?_) (fun c_1 => ?_)
  · skip
    have h1 : tr1 (tcd, trc) bb = (tcd, trc) := if_pos c_1
    exact re_v hf hr hlk hw (by simp only [h1]) dX11_starts_29
  · have hb30 : tcd < 30 := Nat.not_le.mp (fun h => c_1 ((nI_leI (a := 30) (by omega) (by omega)).mpr h))
    refine lv_aload_n hx hb dX11_starts_9 rfl (lv_at hl 0 rfl) ?_
    refine rg hf hk hw hinX11 0 rfl rfl 20 (by decide) w_1 rfl dX11_starts_10 ?_
    refine lv_aload_n hx hb dX11_starts_13 rfl (lv_at hl 0 rfl) ?_
    refine rg hf hk hw hinX11 0 rfl rfl 21 (by decide) w_0 rfl dX11_starts_14 ?_
    refine lv_iload_n hx hb dX11_starts_17 rfl (lv_at hl 1 rfl) ?_
    refine rsj hf hk hw 1 rfl (j := tcd) (vp_in_nI (by omega) (by omega)) (nI_clamp (by omega)) dX11_starts_18 (W' := [cob oh 11 [.ref os, .ref ok, .ref ol, .ref ord, .int isk, .ref odd, .ref otp, .int (nI tpd), .ref olt, .int oat, .int obg, .int otk, .int ovl, .ref orw, .int (nI rmn), .ref oso, .ref osz, .ref oit, .ref oho, .ref ohe, .ref otr, .int (nI tcd), .int own_, .int opt], cin g otr 30 (upd trc tcd bb)]) rfl (fun H locs hw => ?_)
    refine lv_aload_n hx hb dX11_starts_19 rfl (lv_at hl 0 rfl) ?_
    refine lv_dup hx hb dX11_starts_20 rfl ?_
    refine rg hf hk hw hinX11 0 rfl rfl 21 (by decide) w_0 rfl dX11_starts_21 ?_
    refine lv_iconst (v := 1) hx hb dX11_starts_24 (by decide) ?_
    refine lv_iadd hx hb dX11_starts_25 ?_
    refine lv_tope (y := nI (tcd + 1)) (nI_1 _) ?_
    refine rp hf hk hw hinX11 tyX11 tyX11_ok nmX11 0 rfl rfl 21 (by decide) w_0 rfl (rfl) rfl (Nat.le_of_ble_eq_true rfl) dX11_starts_26 (W' := [cob oh 11 [.ref os, .ref ok, .ref ol, .ref ord, .int isk, .ref odd, .ref otp, .int (nI tpd), .ref olt, .int oat, .int obg, .int otk, .int ovl, .ref orw, .int (nI rmn), .ref oso, .ref osz, .ref oit, .ref oho, .ref ohe, .ref otr, .int (nI (tcd + 1)), .int own_, .int opt], cin g otr 30 (upd trc tcd bb)]) rfl (fun H locs hw => ?_)
    have h1 : tr1 (tcd, trc) bb = (tcd + 1, upd trc tcd bb) := if_neg c_1
    exact re_v hf hr hlk hw (by simp only [h1]) dX11_starts_29
theorem hdV_X11_starts : yX11_starts.cls = RX11 ∧ yX11_starts.cls ≠ "java/lang/invoke/MethodHandle" ∧ yX11_starts.cls ≠ "java/lang/invoke/VarHandle" ∧ (parseMethodDescriptor yX11_starts.desc).map (fun d => d.parameters.length) = some 1 := by decide +kernel
abbrev rmX11_looksAs_0_0 : Room := { frames := 1, cells := 0, slots := 0, locals := 21 }
set_option maxHeartbeats 4000000 in
set_option maxRecDepth 100000 in
theorem c_X11_looksAs_0_0 (l : Launch) (g : GG) (oh : Nat) (os : Nat) (ok : Nat) (ol : Nat) (ord : Nat) (odd : Nat) (otp : Nat) (olt : Nat) (orw : Nat) (oso : Nat) (osz : Nat) (oit : Nat) (oho : Nat) (ohe : Nat) (otr : Nat) (stp : Nat) (laws : Nat → Int32) (z : Int32) (cnt : Nat) (fogs : Nat → Int32) (arms : Nat → Int32) (kinds : Nat → Int32) (faiths : Nat → Int32) (places : Nat → Int32) (moved : Nat → Int32) (isk : Int32) (tpd : Nat) (oat : Int32) (obg : Int32) (otk : Int32) (ovl : Int32) (rmn : Nat) (tcd : Nat) (opt : Int32) (trc : Nat → Int32) (q : Nat) (x : Int32) (hq8 : q < 8) (hkq : kinds q = 0) (hbg : tcd ≤ 30) : mt l g yX11_looksAs wsX11_looksAs rmX11_looksAs_0_0 [.ref oh, .int 0, .int x] [cob oh 11 [.ref os, .ref ok, .ref ol, .ref ord, .int isk, .ref odd, .ref otp, .int (nI tpd), .ref olt, .int oat, .int obg, .int otk, .int ovl, .ref orw, .int (nI rmn), .ref oso, .ref osz, .ref oit, .ref oho, .ref ohe, .ref otr, .int (nI tcd), .int (nI q), .int opt], cin g os 51 (mR stp laws z cnt fogs arms kinds faiths places moved), cin g otr 30 trc] (some (.int ((x * 3) - (nI q)))) [cob oh 11 [.ref os, .ref ok, .ref ol, .ref ord, .int isk, .ref odd, .ref otp, .int (nI tpd), .ref olt, .int oat, .int obg, .int otk, .int ovl, .ref orw, .int (nI rmn), .ref oso, .ref osz, .ref oit, .ref oho, .ref ohe, .ref otr, .int (nI (tr1 (tcd, trc) 10).1), .int (nI q), .int opt], cin g os 51 (mR stp laws z cnt fogs arms kinds faiths places moved), cin g otr 30 ((tr1 (tcd, trc) 10).2)] := by
  refine mt.of (cc := cX11_looksAs) (nL := 3) (ret := (some .int)) (own := RX11) (by decide +kernel) rfl rfl (show ([oh, os, otr] : List Nat) = [oh, os, otr] from rfl) (Nat.le_of_ble_eq_true rfl) (fun p e s m below meth c hf hr hlk _ hk hst hw ls hl => ?_)
  have hx := hf.1
  have hb := hf.2.1
  have hts := hf.2.2.2.2
  have hl : lv_has ls 3 [(0, .ref oh), (1, .int 0), (2, .int x)] := hl
  have hinX11 : ∀ w ∈ u_ws RX11 TX11 24, w ∈ wsX11_looksAs := fun w h => List.mem_cons_of_mem _ (List.mem_append_right _ h)
  have w_0 : Cond.fieldLink RX11 244 "LightManModel" "own" "I" ∈ wsX11_looksAs := List.mem_of_getElem? (i := 1) rfl
  refine lv_iload_n hx hb dX11_looksAs_0 rfl (lv_at hl 1 rfl) ?_
  refine lv_tableOut (tgt := 74) hx hb dX11_looksAs_1 (by decide) (by decide) ?_
  refine lv_aload_n hx hb dX11_looksAs_74 rfl (lv_at hl 0 rfl) ?_
  refine lv_bipush (v := 10) hx hb dX11_looksAs_75 (by decide) ?_
  refine mcV hf hk hst hw (c_X11_starts l g oh os ok ol ord odd otp olt orw oso osz oit oho ohe otr isk tpd oat obg otk ovl rmn tcd (nI q) opt trc 10 (by first | omega | ((repeat apply tr1_le); dsimp only; omega))) (cwV 1 hts gX11_looksAs_X11_starts rfl rfl rfl hdV_X11_starts ⟨Nat.le_of_ble_eq_true rfl, Nat.le_of_ble_eq_true rfl⟩) [0, 2] rfl rfl 0 rfl rfl rfl hl.1 rfl (Nat.le_of_ble_eq_true rfl) dX11_looksAs_77 ⟨Nat.zero_le _, Nat.zero_le _⟩ (W' := [cob oh 11 [.ref os, .ref ok, .ref ol, .ref ord, .int isk, .ref odd, .ref otp, .int (nI tpd), .ref olt, .int oat, .int obg, .int otk, .int ovl, .ref orw, .int (nI rmn), .ref oso, .ref osz, .ref oit, .ref oho, .ref ohe, .ref otr, .int (nI (tr1 (tcd, trc) 10).1), .int (nI q), .int opt], cin g os 51 (mR stp laws z cnt fogs arms kinds faiths places moved), cin g otr 30 ((tr1 (tcd, trc) 10).2)]) rfl (fun H locs hw => ?_)
  refine lv_iload_n hx hb dX11_looksAs_80 rfl (lv_at hl 2 rfl) ?_
  refine lv_iconst (v := 3) hx hb dX11_looksAs_81 (by decide) ?_
  refine lv_imul hx hb dX11_looksAs_82 ?_
  refine lv_aload_n hx hb dX11_looksAs_83 rfl (lv_at hl 0 rfl) ?_
  refine rg hf hk hw hinX11 0 rfl rfl 22 (by decide) w_0 rfl dX11_looksAs_84 ?_
  refine lv_isub hx hb dX11_looksAs_87 ?_
  exact re_i hf hr hlk hw (rfl) (rfl) dX11_looksAs_88
abbrev rmX11_looksAs_1_1 : Room := { frames := 1, cells := 0, slots := 0, locals := 21 }
set_option maxHeartbeats 4000000 in
set_option maxRecDepth 100000 in
theorem c_X11_looksAs_1_1 (l : Launch) (g : GG) (oh : Nat) (os : Nat) (ok : Nat) (ol : Nat) (ord : Nat) (odd : Nat) (otp : Nat) (olt : Nat) (orw : Nat) (oso : Nat) (osz : Nat) (oit : Nat) (oho : Nat) (ohe : Nat) (otr : Nat) (stp : Nat) (laws : Nat → Int32) (z : Int32) (cnt : Nat) (fogs : Nat → Int32) (arms : Nat → Int32) (kinds : Nat → Int32) (faiths : Nat → Int32) (places : Nat → Int32) (moved : Nat → Int32) (isk : Int32) (tpd : Nat) (oat : Int32) (obg : Int32) (otk : Int32) (ovl : Int32) (rmn : Nat) (tcd : Nat) (opt : Int32) (trc : Nat → Int32) (q : Nat) (x : Int32) (hq8 : q < 8) (hkq : kinds q = 1) (hbg : tcd ≤ 30) : mt l g yX11_looksAs wsX11_looksAs rmX11_looksAs_1_1 [.ref oh, .int 1, .int x] [cob oh 11 [.ref os, .ref ok, .ref ol, .ref ord, .int isk, .ref odd, .ref otp, .int (nI tpd), .ref olt, .int oat, .int obg, .int otk, .int ovl, .ref orw, .int (nI rmn), .ref oso, .ref osz, .ref oit, .ref oho, .ref ohe, .ref otr, .int (nI tcd), .int (nI q), .int opt], cin g os 51 (mR stp laws z cnt fogs arms kinds faiths places moved), cin g otr 30 trc] (some (.int ((x * 3) - (nI q)))) [cob oh 11 [.ref os, .ref ok, .ref ol, .ref ord, .int isk, .ref odd, .ref otp, .int (nI tpd), .ref olt, .int oat, .int obg, .int otk, .int ovl, .ref orw, .int (nI rmn), .ref oso, .ref osz, .ref oit, .ref oho, .ref ohe, .ref otr, .int (nI (tr1 (tcd, trc) 10).1), .int (nI q), .int opt], cin g os 51 (mR stp laws z cnt fogs arms kinds faiths places moved), cin g otr 30 ((tr1 (tcd, trc) 10).2)] := by
  refine mt.of (cc := cX11_looksAs) (nL := 3) (ret := (some .int)) (own := RX11) (by decide +kernel) rfl rfl (show ([oh, os, otr] : List Nat) = [oh, os, otr] from rfl) (Nat.le_of_ble_eq_true rfl) (fun p e s m below meth c hf hr hlk _ hk hst hw ls hl => ?_)
  have hx := hf.1
  have hb := hf.2.1
  have hts := hf.2.2.2.2
  have hl : lv_has ls 3 [(0, .ref oh), (1, .int 1), (2, .int x)] := hl
  have hinX11 : ∀ w ∈ u_ws RX11 TX11 24, w ∈ wsX11_looksAs := fun w h => List.mem_cons_of_mem _ (List.mem_append_right _ h)
  have w_0 : Cond.fieldLink RX11 244 "LightManModel" "own" "I" ∈ wsX11_looksAs := List.mem_of_getElem? (i := 1) rfl
  refine lv_iload_n hx hb dX11_looksAs_0 rfl (lv_at hl 1 rfl) ?_
  refine lv_tableOut (tgt := 74) hx hb dX11_looksAs_1 (by decide) (by decide) ?_
  refine lv_aload_n hx hb dX11_looksAs_74 rfl (lv_at hl 0 rfl) ?_
  refine lv_bipush (v := 10) hx hb dX11_looksAs_75 (by decide) ?_
  refine mcV hf hk hst hw (c_X11_starts l g oh os ok ol ord odd otp olt orw oso osz oit oho ohe otr isk tpd oat obg otk ovl rmn tcd (nI q) opt trc 10 (by first | omega | ((repeat apply tr1_le); dsimp only; omega))) (cwV 1 hts gX11_looksAs_X11_starts rfl rfl rfl hdV_X11_starts ⟨Nat.le_of_ble_eq_true rfl, Nat.le_of_ble_eq_true rfl⟩) [0, 2] rfl rfl 0 rfl rfl rfl hl.1 rfl (Nat.le_of_ble_eq_true rfl) dX11_looksAs_77 ⟨Nat.zero_le _, Nat.zero_le _⟩ (W' := [cob oh 11 [.ref os, .ref ok, .ref ol, .ref ord, .int isk, .ref odd, .ref otp, .int (nI tpd), .ref olt, .int oat, .int obg, .int otk, .int ovl, .ref orw, .int (nI rmn), .ref oso, .ref osz, .ref oit, .ref oho, .ref ohe, .ref otr, .int (nI (tr1 (tcd, trc) 10).1), .int (nI q), .int opt], cin g os 51 (mR stp laws z cnt fogs arms kinds faiths places moved), cin g otr 30 ((tr1 (tcd, trc) 10).2)]) rfl (fun H locs hw => ?_)
  refine lv_iload_n hx hb dX11_looksAs_80 rfl (lv_at hl 2 rfl) ?_
  refine lv_iconst (v := 3) hx hb dX11_looksAs_81 (by decide) ?_
  refine lv_imul hx hb dX11_looksAs_82 ?_
  refine lv_aload_n hx hb dX11_looksAs_83 rfl (lv_at hl 0 rfl) ?_
  refine rg hf hk hw hinX11 0 rfl rfl 22 (by decide) w_0 rfl dX11_looksAs_84 ?_
  refine lv_isub hx hb dX11_looksAs_87 ?_
  exact re_i hf hr hlk hw (rfl) (rfl) dX11_looksAs_88
abbrev rmX11_looksAs_0_2 : Room := { frames := 1, cells := 0, slots := 0, locals := 21 }
set_option maxHeartbeats 4000000 in
set_option maxRecDepth 100000 in
theorem c_X11_looksAs_0_2 (l : Launch) (g : GG) (oh : Nat) (os : Nat) (ok : Nat) (ol : Nat) (ord : Nat) (odd : Nat) (otp : Nat) (olt : Nat) (orw : Nat) (oso : Nat) (osz : Nat) (oit : Nat) (oho : Nat) (ohe : Nat) (otr : Nat) (stp : Nat) (laws : Nat → Int32) (z : Int32) (cnt : Nat) (fogs : Nat → Int32) (arms : Nat → Int32) (kinds : Nat → Int32) (faiths : Nat → Int32) (places : Nat → Int32) (moved : Nat → Int32) (isk : Int32) (tpd : Nat) (oat : Int32) (obg : Int32) (otk : Int32) (ovl : Int32) (rmn : Nat) (tcd : Nat) (opt : Int32) (trc : Nat → Int32) (q : Nat) (x : Int32) (hq8 : q < 8) (hkq : kinds q = 2) (hbg : tcd ≤ 30) : mt l g yX11_looksAs wsX11_looksAs rmX11_looksAs_0_2 [.ref oh, .int 0, .int x] [cob oh 11 [.ref os, .ref ok, .ref ol, .ref ord, .int isk, .ref odd, .ref otp, .int (nI tpd), .ref olt, .int oat, .int obg, .int otk, .int ovl, .ref orw, .int (nI rmn), .ref oso, .ref osz, .ref oit, .ref oho, .ref ohe, .ref otr, .int (nI tcd), .int (nI q), .int opt], cin g os 51 (mR stp laws z cnt fogs arms kinds faiths places moved), cin g otr 30 trc] (some (.int ((x * 3) - (nI q)))) [cob oh 11 [.ref os, .ref ok, .ref ol, .ref ord, .int isk, .ref odd, .ref otp, .int (nI tpd), .ref olt, .int oat, .int obg, .int otk, .int ovl, .ref orw, .int (nI rmn), .ref oso, .ref osz, .ref oit, .ref oho, .ref ohe, .ref otr, .int (nI (tr1 (tcd, trc) 10).1), .int (nI q), .int opt], cin g os 51 (mR stp laws z cnt fogs arms kinds faiths places moved), cin g otr 30 ((tr1 (tcd, trc) 10).2)] := by
  refine mt.of (cc := cX11_looksAs) (nL := 3) (ret := (some .int)) (own := RX11) (by decide +kernel) rfl rfl (show ([oh, os, otr] : List Nat) = [oh, os, otr] from rfl) (Nat.le_of_ble_eq_true rfl) (fun p e s m below meth c hf hr hlk _ hk hst hw ls hl => ?_)
  have hx := hf.1
  have hb := hf.2.1
  have hts := hf.2.2.2.2
  have hl : lv_has ls 3 [(0, .ref oh), (1, .int 0), (2, .int x)] := hl
  have hinX11 : ∀ w ∈ u_ws RX11 TX11 24, w ∈ wsX11_looksAs := fun w h => List.mem_cons_of_mem _ (List.mem_append_right _ h)
  have w_0 : Cond.fieldLink RX11 244 "LightManModel" "own" "I" ∈ wsX11_looksAs := List.mem_of_getElem? (i := 1) rfl
  refine lv_iload_n hx hb dX11_looksAs_0 rfl (lv_at hl 1 rfl) ?_
  refine lv_tableOut (tgt := 74) hx hb dX11_looksAs_1 (by decide) (by decide) ?_
  refine lv_aload_n hx hb dX11_looksAs_74 rfl (lv_at hl 0 rfl) ?_
  refine lv_bipush (v := 10) hx hb dX11_looksAs_75 (by decide) ?_
  refine mcV hf hk hst hw (c_X11_starts l g oh os ok ol ord odd otp olt orw oso osz oit oho ohe otr isk tpd oat obg otk ovl rmn tcd (nI q) opt trc 10 (by first | omega | ((repeat apply tr1_le); dsimp only; omega))) (cwV 1 hts gX11_looksAs_X11_starts rfl rfl rfl hdV_X11_starts ⟨Nat.le_of_ble_eq_true rfl, Nat.le_of_ble_eq_true rfl⟩) [0, 2] rfl rfl 0 rfl rfl rfl hl.1 rfl (Nat.le_of_ble_eq_true rfl) dX11_looksAs_77 ⟨Nat.zero_le _, Nat.zero_le _⟩ (W' := [cob oh 11 [.ref os, .ref ok, .ref ol, .ref ord, .int isk, .ref odd, .ref otp, .int (nI tpd), .ref olt, .int oat, .int obg, .int otk, .int ovl, .ref orw, .int (nI rmn), .ref oso, .ref osz, .ref oit, .ref oho, .ref ohe, .ref otr, .int (nI (tr1 (tcd, trc) 10).1), .int (nI q), .int opt], cin g os 51 (mR stp laws z cnt fogs arms kinds faiths places moved), cin g otr 30 ((tr1 (tcd, trc) 10).2)]) rfl (fun H locs hw => ?_)
  refine lv_iload_n hx hb dX11_looksAs_80 rfl (lv_at hl 2 rfl) ?_
  refine lv_iconst (v := 3) hx hb dX11_looksAs_81 (by decide) ?_
  refine lv_imul hx hb dX11_looksAs_82 ?_
  refine lv_aload_n hx hb dX11_looksAs_83 rfl (lv_at hl 0 rfl) ?_
  refine rg hf hk hw hinX11 0 rfl rfl 22 (by decide) w_0 rfl dX11_looksAs_84 ?_
  refine lv_isub hx hb dX11_looksAs_87 ?_
  exact re_i hf hr hlk hw (rfl) (rfl) dX11_looksAs_88
theorem hdV_X11_looksAs : yX11_looksAs.cls = RX11 ∧ yX11_looksAs.cls ≠ "java/lang/invoke/MethodHandle" ∧ yX11_looksAs.cls ≠ "java/lang/invoke/VarHandle" ∧ (parseMethodDescriptor yX11_looksAs.desc).map (fun d => d.parameters.length) = some 2 := by decide +kernel
abbrev rmX11_looksAs_2_2 : Room := { frames := 2, cells := 0, slots := 0, locals := 43 }
set_option maxHeartbeats 4000000 in
set_option maxRecDepth 100000 in
theorem c_X11_looksAs_2_2 (l : Launch) (g : GG) (oh : Nat) (os : Nat) (ok : Nat) (ol : Nat) (ord : Nat) (odd : Nat) (otp : Nat) (olt : Nat) (orw : Nat) (oso : Nat) (osz : Nat) (oit : Nat) (oho : Nat) (ohe : Nat) (otr : Nat) (stp : Nat) (laws : Nat → Int32) (z : Int32) (cnt : Nat) (fogs : Nat → Int32) (arms : Nat → Int32) (kinds : Nat → Int32) (faiths : Nat → Int32) (places : Nat → Int32) (moved : Nat → Int32) (isk : Int32) (tpd : Nat) (oat : Int32) (obg : Int32) (otk : Int32) (ovl : Int32) (rmn : Nat) (tcd : Nat) (opt : Int32) (trc : Nat → Int32) (q : Nat) (x : Int32) (hq8 : q < 8) (hkq : kinds q = 2) (hbg : tcd ≤ 30) : mt l g yX11_looksAs wsX11_looksAs rmX11_looksAs_2_2 [.ref oh, .int 2, .int x] [cob oh 11 [.ref os, .ref ok, .ref ol, .ref ord, .int isk, .ref odd, .ref otp, .int (nI tpd), .ref olt, .int oat, .int obg, .int otk, .int ovl, .ref orw, .int (nI rmn), .ref oso, .ref osz, .ref oit, .ref oho, .ref ohe, .ref otr, .int (nI tcd), .int (nI q), .int opt], cin g os 51 (mR stp laws z cnt fogs arms kinds faiths places moved), cin g otr 30 trc] (some (.int (((x * 3) - (nI q)) * 2))) [cob oh 11 [.ref os, .ref ok, .ref ol, .ref ord, .int isk, .ref odd, .ref otp, .int (nI tpd), .ref olt, .int oat, .int obg, .int otk, .int ovl, .ref orw, .int (nI rmn), .ref oso, .ref osz, .ref oit, .ref oho, .ref ohe, .ref otr, .int (nI (tr1 (tr1 (tcd, trc) 30) 10).1), .int (nI q), .int opt], cin g os 51 (mR stp laws z cnt fogs arms kinds faiths places moved), cin g otr 30 ((tr1 (tr1 (tcd, trc) 30) 10).2)] := by
  refine mt.of (cc := cX11_looksAs) (nL := 3) (ret := (some .int)) (own := RX11) (by decide +kernel) rfl rfl (show ([oh, os, otr] : List Nat) = [oh, os, otr] from rfl) (Nat.le_of_ble_eq_true rfl) (fun p e s m below meth c hf hr hlk _ hk hst hw ls hl => ?_)
  have hx := hf.1
  have hb := hf.2.1
  have hts := hf.2.2.2.2
  have hl : lv_has ls 3 [(0, .ref oh), (1, .int 2), (2, .int x)] := hl
  refine lv_iload_n hx hb dX11_looksAs_0 rfl (lv_at hl 1 rfl) ?_
  refine lv_tableIn (off := 27) (tgt := 28) hx hb dX11_looksAs_1 (by decide) (by decide) (by rfl) (by decide) ?_
  refine lv_aload_n hx hb dX11_looksAs_28 rfl (lv_at hl 0 rfl) ?_
  refine lv_bipush (v := 30) hx hb dX11_looksAs_29 (by decide) ?_
  refine mcV hf hk hst hw (c_X11_starts l g oh os ok ol ord odd otp olt orw oso osz oit oho ohe otr isk tpd oat obg otk ovl rmn tcd (nI q) opt trc 30 (by first | omega | ((repeat apply tr1_le); dsimp only; omega))) (cwV 1 hts gX11_looksAs_X11_starts rfl rfl rfl hdV_X11_starts ⟨Nat.le_of_ble_eq_true rfl, Nat.le_of_ble_eq_true rfl⟩) [0, 2] rfl rfl 0 rfl rfl rfl hl.1 rfl (Nat.le_of_ble_eq_true rfl) dX11_looksAs_31 ⟨Nat.zero_le _, Nat.zero_le _⟩ (W' := [cob oh 11 [.ref os, .ref ok, .ref ol, .ref ord, .int isk, .ref odd, .ref otp, .int (nI tpd), .ref olt, .int oat, .int obg, .int otk, .int ovl, .ref orw, .int (nI rmn), .ref oso, .ref osz, .ref oit, .ref oho, .ref ohe, .ref otr, .int (nI (tr1 (tcd, trc) 30).1), .int (nI q), .int opt], cin g os 51 (mR stp laws z cnt fogs arms kinds faiths places moved), cin g otr 30 ((tr1 (tcd, trc) 30).2)]) rfl (fun H locs hw => ?_)
  refine lv_aload_n hx hb dX11_looksAs_34 rfl (lv_at hl 0 rfl) ?_
  refine lv_iconst (v := 0) hx hb dX11_looksAs_35 (by decide) ?_
  refine lv_iload_n hx hb dX11_looksAs_36 rfl (lv_at hl 2 rfl) ?_
  refine mcV hf hk hst hw (c_X11_looksAs_0_2 l g oh os ok ol ord odd otp olt orw oso osz oit oho ohe otr stp laws z cnt fogs arms kinds faiths places moved isk tpd oat obg otk ovl rmn ((tr1 (tcd, trc) 30).1) opt ((tr1 (tcd, trc) 30).2) q x (by omega) (hkq) (by first | omega | ((repeat apply tr1_le); dsimp only; omega))) (cwV 2 hts gX11_looksAs_X11_looksAs rfl rfl rfl hdV_X11_looksAs ⟨Nat.le_of_ble_eq_true rfl, Nat.le_of_ble_eq_true rfl⟩) [0, 1, 2] rfl rfl 0 rfl rfl rfl hl.1 rfl (Nat.le_of_ble_eq_true rfl) dX11_looksAs_37 ⟨Nat.zero_le _, Nat.zero_le _⟩ (W' := [cob oh 11 [.ref os, .ref ok, .ref ol, .ref ord, .int isk, .ref odd, .ref otp, .int (nI tpd), .ref olt, .int oat, .int obg, .int otk, .int ovl, .ref orw, .int (nI rmn), .ref oso, .ref osz, .ref oit, .ref oho, .ref ohe, .ref otr, .int (nI (tr1 (((tr1 (tcd, trc) 30).1), ((tr1 (tcd, trc) 30).2)) 10).1), .int (nI q), .int opt], cin g os 51 (mR stp laws z cnt fogs arms kinds faiths places moved), cin g otr 30 ((tr1 (((tr1 (tcd, trc) 30).1), ((tr1 (tcd, trc) 30).2)) 10).2)]) rfl (fun H locs hw => ?_)
  refine lv_iconst (v := 2) hx hb dX11_looksAs_40 (by decide) ?_
  refine lv_imul hx hb dX11_looksAs_41 ?_
  exact re_i hf hr hlk hw (rfl) (by simp only [pr_eta]) dX11_looksAs_42
abbrev rmX11_looksAs_0_3 : Room := { frames := 1, cells := 0, slots := 0, locals := 21 }
set_option maxHeartbeats 4000000 in
set_option maxRecDepth 100000 in
theorem c_X11_looksAs_0_3 (l : Launch) (g : GG) (oh : Nat) (os : Nat) (ok : Nat) (ol : Nat) (ord : Nat) (odd : Nat) (otp : Nat) (olt : Nat) (orw : Nat) (oso : Nat) (osz : Nat) (oit : Nat) (oho : Nat) (ohe : Nat) (otr : Nat) (stp : Nat) (laws : Nat → Int32) (z : Int32) (cnt : Nat) (fogs : Nat → Int32) (arms : Nat → Int32) (kinds : Nat → Int32) (faiths : Nat → Int32) (places : Nat → Int32) (moved : Nat → Int32) (isk : Int32) (tpd : Nat) (oat : Int32) (obg : Int32) (otk : Int32) (ovl : Int32) (rmn : Nat) (tcd : Nat) (opt : Int32) (trc : Nat → Int32) (q : Nat) (x : Int32) (hq8 : q < 8) (hkq : kinds q = 3) (hbg : tcd ≤ 30) : mt l g yX11_looksAs wsX11_looksAs rmX11_looksAs_0_3 [.ref oh, .int 0, .int x] [cob oh 11 [.ref os, .ref ok, .ref ol, .ref ord, .int isk, .ref odd, .ref otp, .int (nI tpd), .ref olt, .int oat, .int obg, .int otk, .int ovl, .ref orw, .int (nI rmn), .ref oso, .ref osz, .ref oit, .ref oho, .ref ohe, .ref otr, .int (nI tcd), .int (nI q), .int opt], cin g os 51 (mR stp laws z cnt fogs arms kinds faiths places moved), cin g otr 30 trc] (some (.int ((x * 3) - (nI q)))) [cob oh 11 [.ref os, .ref ok, .ref ol, .ref ord, .int isk, .ref odd, .ref otp, .int (nI tpd), .ref olt, .int oat, .int obg, .int otk, .int ovl, .ref orw, .int (nI rmn), .ref oso, .ref osz, .ref oit, .ref oho, .ref ohe, .ref otr, .int (nI (tr1 (tcd, trc) 10).1), .int (nI q), .int opt], cin g os 51 (mR stp laws z cnt fogs arms kinds faiths places moved), cin g otr 30 ((tr1 (tcd, trc) 10).2)] := by
  refine mt.of (cc := cX11_looksAs) (nL := 3) (ret := (some .int)) (own := RX11) (by decide +kernel) rfl rfl (show ([oh, os, otr] : List Nat) = [oh, os, otr] from rfl) (Nat.le_of_ble_eq_true rfl) (fun p e s m below meth c hf hr hlk _ hk hst hw ls hl => ?_)
  have hx := hf.1
  have hb := hf.2.1
  have hts := hf.2.2.2.2
  have hl : lv_has ls 3 [(0, .ref oh), (1, .int 0), (2, .int x)] := hl
  have hinX11 : ∀ w ∈ u_ws RX11 TX11 24, w ∈ wsX11_looksAs := fun w h => List.mem_cons_of_mem _ (List.mem_append_right _ h)
  have w_0 : Cond.fieldLink RX11 244 "LightManModel" "own" "I" ∈ wsX11_looksAs := List.mem_of_getElem? (i := 1) rfl
  refine lv_iload_n hx hb dX11_looksAs_0 rfl (lv_at hl 1 rfl) ?_
  refine lv_tableOut (tgt := 74) hx hb dX11_looksAs_1 (by decide) (by decide) ?_
  refine lv_aload_n hx hb dX11_looksAs_74 rfl (lv_at hl 0 rfl) ?_
  refine lv_bipush (v := 10) hx hb dX11_looksAs_75 (by decide) ?_
  refine mcV hf hk hst hw (c_X11_starts l g oh os ok ol ord odd otp olt orw oso osz oit oho ohe otr isk tpd oat obg otk ovl rmn tcd (nI q) opt trc 10 (by first | omega | ((repeat apply tr1_le); dsimp only; omega))) (cwV 1 hts gX11_looksAs_X11_starts rfl rfl rfl hdV_X11_starts ⟨Nat.le_of_ble_eq_true rfl, Nat.le_of_ble_eq_true rfl⟩) [0, 2] rfl rfl 0 rfl rfl rfl hl.1 rfl (Nat.le_of_ble_eq_true rfl) dX11_looksAs_77 ⟨Nat.zero_le _, Nat.zero_le _⟩ (W' := [cob oh 11 [.ref os, .ref ok, .ref ol, .ref ord, .int isk, .ref odd, .ref otp, .int (nI tpd), .ref olt, .int oat, .int obg, .int otk, .int ovl, .ref orw, .int (nI rmn), .ref oso, .ref osz, .ref oit, .ref oho, .ref ohe, .ref otr, .int (nI (tr1 (tcd, trc) 10).1), .int (nI q), .int opt], cin g os 51 (mR stp laws z cnt fogs arms kinds faiths places moved), cin g otr 30 ((tr1 (tcd, trc) 10).2)]) rfl (fun H locs hw => ?_)
  refine lv_iload_n hx hb dX11_looksAs_80 rfl (lv_at hl 2 rfl) ?_
  refine lv_iconst (v := 3) hx hb dX11_looksAs_81 (by decide) ?_
  refine lv_imul hx hb dX11_looksAs_82 ?_
  refine lv_aload_n hx hb dX11_looksAs_83 rfl (lv_at hl 0 rfl) ?_
  refine rg hf hk hw hinX11 0 rfl rfl 22 (by decide) w_0 rfl dX11_looksAs_84 ?_
  refine lv_isub hx hb dX11_looksAs_87 ?_
  exact re_i hf hr hlk hw (rfl) (rfl) dX11_looksAs_88
abbrev rmX11_looksAs_3_3 : Room := { frames := 2, cells := 0, slots := 0, locals := 43 }
set_option maxHeartbeats 4000000 in
set_option maxRecDepth 100000 in
theorem c_X11_looksAs_3_3 (l : Launch) (g : GG) (oh : Nat) (os : Nat) (ok : Nat) (ol : Nat) (ord : Nat) (odd : Nat) (otp : Nat) (olt : Nat) (orw : Nat) (oso : Nat) (osz : Nat) (oit : Nat) (oho : Nat) (ohe : Nat) (otr : Nat) (stp : Nat) (laws : Nat → Int32) (z : Int32) (cnt : Nat) (fogs : Nat → Int32) (arms : Nat → Int32) (kinds : Nat → Int32) (faiths : Nat → Int32) (places : Nat → Int32) (moved : Nat → Int32) (isk : Int32) (tpd : Nat) (oat : Int32) (obg : Int32) (otk : Int32) (ovl : Int32) (rmn : Nat) (tcd : Nat) (opt : Int32) (trc : Nat → Int32) (q : Nat) (x : Int32) (hq8 : q < 8) (hkq : kinds q = 3) (hbg : tcd ≤ 30) : mt l g yX11_looksAs wsX11_looksAs rmX11_looksAs_3_3 [.ref oh, .int 3, .int x] [cob oh 11 [.ref os, .ref ok, .ref ol, .ref ord, .int isk, .ref odd, .ref otp, .int (nI tpd), .ref olt, .int oat, .int obg, .int otk, .int ovl, .ref orw, .int (nI rmn), .ref oso, .ref osz, .ref oit, .ref oho, .ref ohe, .ref otr, .int (nI tcd), .int (nI q), .int opt], cin g os 51 (mR stp laws z cnt fogs arms kinds faiths places moved), cin g otr 30 trc] (some (.int (((x * 3) - (nI q)) + 3))) [cob oh 11 [.ref os, .ref ok, .ref ol, .ref ord, .int isk, .ref odd, .ref otp, .int (nI tpd), .ref olt, .int oat, .int obg, .int otk, .int ovl, .ref orw, .int (nI rmn), .ref oso, .ref osz, .ref oit, .ref oho, .ref ohe, .ref otr, .int (nI (tr1 (tr1 (tcd, trc) 51) 10).1), .int (nI q), .int opt], cin g os 51 (mR stp laws z cnt fogs arms kinds faiths places moved), cin g otr 30 ((tr1 (tr1 (tcd, trc) 51) 10).2)] := by
  refine mt.of (cc := cX11_looksAs) (nL := 3) (ret := (some .int)) (own := RX11) (by decide +kernel) rfl rfl (show ([oh, os, otr] : List Nat) = [oh, os, otr] from rfl) (Nat.le_of_ble_eq_true rfl) (fun p e s m below meth c hf hr hlk _ hk hst hw ls hl => ?_)
  have hx := hf.1
  have hb := hf.2.1
  have hts := hf.2.2.2.2
  have hl : lv_has ls 3 [(0, .ref oh), (1, .int 3), (2, .int x)] := hl
  refine lv_iload_n hx hb dX11_looksAs_0 rfl (lv_at hl 1 rfl) ?_
  refine lv_tableIn (off := 42) (tgt := 43) hx hb dX11_looksAs_1 (by decide) (by decide) (by rfl) (by decide) ?_
  refine lv_aload_n hx hb dX11_looksAs_43 rfl (lv_at hl 0 rfl) ?_
  refine lv_bipush (v := 51) hx hb dX11_looksAs_44 (by decide) ?_
  refine mcV hf hk hst hw (c_X11_starts l g oh os ok ol ord odd otp olt orw oso osz oit oho ohe otr isk tpd oat obg otk ovl rmn tcd (nI q) opt trc 51 (by first | omega | ((repeat apply tr1_le); dsimp only; omega))) (cwV 1 hts gX11_looksAs_X11_starts rfl rfl rfl hdV_X11_starts ⟨Nat.le_of_ble_eq_true rfl, Nat.le_of_ble_eq_true rfl⟩) [0, 2] rfl rfl 0 rfl rfl rfl hl.1 rfl (Nat.le_of_ble_eq_true rfl) dX11_looksAs_46 ⟨Nat.zero_le _, Nat.zero_le _⟩ (W' := [cob oh 11 [.ref os, .ref ok, .ref ol, .ref ord, .int isk, .ref odd, .ref otp, .int (nI tpd), .ref olt, .int oat, .int obg, .int otk, .int ovl, .ref orw, .int (nI rmn), .ref oso, .ref osz, .ref oit, .ref oho, .ref ohe, .ref otr, .int (nI (tr1 (tcd, trc) 51).1), .int (nI q), .int opt], cin g os 51 (mR stp laws z cnt fogs arms kinds faiths places moved), cin g otr 30 ((tr1 (tcd, trc) 51).2)]) rfl (fun H locs hw => ?_)
  refine lv_aload_n hx hb dX11_looksAs_49 rfl (lv_at hl 0 rfl) ?_
  refine lv_iconst (v := 0) hx hb dX11_looksAs_50 (by decide) ?_
  refine lv_iload_n hx hb dX11_looksAs_51 rfl (lv_at hl 2 rfl) ?_
  refine mcV hf hk hst hw (c_X11_looksAs_0_3 l g oh os ok ol ord odd otp olt orw oso osz oit oho ohe otr stp laws z cnt fogs arms kinds faiths places moved isk tpd oat obg otk ovl rmn ((tr1 (tcd, trc) 51).1) opt ((tr1 (tcd, trc) 51).2) q x (by omega) (hkq) (by first | omega | ((repeat apply tr1_le); dsimp only; omega))) (cwV 2 hts gX11_looksAs_X11_looksAs rfl rfl rfl hdV_X11_looksAs ⟨Nat.le_of_ble_eq_true rfl, Nat.le_of_ble_eq_true rfl⟩) [0, 1, 2] rfl rfl 0 rfl rfl rfl hl.1 rfl (Nat.le_of_ble_eq_true rfl) dX11_looksAs_52 ⟨Nat.zero_le _, Nat.zero_le _⟩ (W' := [cob oh 11 [.ref os, .ref ok, .ref ol, .ref ord, .int isk, .ref odd, .ref otp, .int (nI tpd), .ref olt, .int oat, .int obg, .int otk, .int ovl, .ref orw, .int (nI rmn), .ref oso, .ref osz, .ref oit, .ref oho, .ref ohe, .ref otr, .int (nI (tr1 (((tr1 (tcd, trc) 51).1), ((tr1 (tcd, trc) 51).2)) 10).1), .int (nI q), .int opt], cin g os 51 (mR stp laws z cnt fogs arms kinds faiths places moved), cin g otr 30 ((tr1 (((tr1 (tcd, trc) 51).1), ((tr1 (tcd, trc) 51).2)) 10).2)]) rfl (fun H locs hw => ?_)
  refine lv_iconst (v := 3) hx hb dX11_looksAs_55 (by decide) ?_
  refine lv_iadd hx hb dX11_looksAs_56 ?_
  exact re_i hf hr hlk hw (rfl) (by simp only [pr_eta]) dX11_looksAs_57
abbrev rmX11_looksAs_0_4 : Room := { frames := 1, cells := 0, slots := 0, locals := 21 }
set_option maxHeartbeats 4000000 in
set_option maxRecDepth 100000 in
theorem c_X11_looksAs_0_4 (l : Launch) (g : GG) (oh : Nat) (os : Nat) (ok : Nat) (ol : Nat) (ord : Nat) (odd : Nat) (otp : Nat) (olt : Nat) (orw : Nat) (oso : Nat) (osz : Nat) (oit : Nat) (oho : Nat) (ohe : Nat) (otr : Nat) (stp : Nat) (laws : Nat → Int32) (z : Int32) (cnt : Nat) (fogs : Nat → Int32) (arms : Nat → Int32) (kinds : Nat → Int32) (faiths : Nat → Int32) (places : Nat → Int32) (moved : Nat → Int32) (isk : Int32) (tpd : Nat) (oat : Int32) (obg : Int32) (otk : Int32) (ovl : Int32) (rmn : Nat) (tcd : Nat) (opt : Int32) (trc : Nat → Int32) (q : Nat) (x : Int32) (hq8 : q < 8) (hkq : kinds q = 4) (hbg : tcd ≤ 30) : mt l g yX11_looksAs wsX11_looksAs rmX11_looksAs_0_4 [.ref oh, .int 0, .int x] [cob oh 11 [.ref os, .ref ok, .ref ol, .ref ord, .int isk, .ref odd, .ref otp, .int (nI tpd), .ref olt, .int oat, .int obg, .int otk, .int ovl, .ref orw, .int (nI rmn), .ref oso, .ref osz, .ref oit, .ref oho, .ref ohe, .ref otr, .int (nI tcd), .int (nI q), .int opt], cin g os 51 (mR stp laws z cnt fogs arms kinds faiths places moved), cin g otr 30 trc] (some (.int ((x * 3) - (nI q)))) [cob oh 11 [.ref os, .ref ok, .ref ol, .ref ord, .int isk, .ref odd, .ref otp, .int (nI tpd), .ref olt, .int oat, .int obg, .int otk, .int ovl, .ref orw, .int (nI rmn), .ref oso, .ref osz, .ref oit, .ref oho, .ref ohe, .ref otr, .int (nI (tr1 (tcd, trc) 10).1), .int (nI q), .int opt], cin g os 51 (mR stp laws z cnt fogs arms kinds faiths places moved), cin g otr 30 ((tr1 (tcd, trc) 10).2)] := by
  refine mt.of (cc := cX11_looksAs) (nL := 3) (ret := (some .int)) (own := RX11) (by decide +kernel) rfl rfl (show ([oh, os, otr] : List Nat) = [oh, os, otr] from rfl) (Nat.le_of_ble_eq_true rfl) (fun p e s m below meth c hf hr hlk _ hk hst hw ls hl => ?_)
  have hx := hf.1
  have hb := hf.2.1
  have hts := hf.2.2.2.2
  have hl : lv_has ls 3 [(0, .ref oh), (1, .int 0), (2, .int x)] := hl
  have hinX11 : ∀ w ∈ u_ws RX11 TX11 24, w ∈ wsX11_looksAs := fun w h => List.mem_cons_of_mem _ (List.mem_append_right _ h)
  have w_0 : Cond.fieldLink RX11 244 "LightManModel" "own" "I" ∈ wsX11_looksAs := List.mem_of_getElem? (i := 1) rfl
  refine lv_iload_n hx hb dX11_looksAs_0 rfl (lv_at hl 1 rfl) ?_
  refine lv_tableOut (tgt := 74) hx hb dX11_looksAs_1 (by decide) (by decide) ?_
  refine lv_aload_n hx hb dX11_looksAs_74 rfl (lv_at hl 0 rfl) ?_
  refine lv_bipush (v := 10) hx hb dX11_looksAs_75 (by decide) ?_
  refine mcV hf hk hst hw (c_X11_starts l g oh os ok ol ord odd otp olt orw oso osz oit oho ohe otr isk tpd oat obg otk ovl rmn tcd (nI q) opt trc 10 (by first | omega | ((repeat apply tr1_le); dsimp only; omega))) (cwV 1 hts gX11_looksAs_X11_starts rfl rfl rfl hdV_X11_starts ⟨Nat.le_of_ble_eq_true rfl, Nat.le_of_ble_eq_true rfl⟩) [0, 2] rfl rfl 0 rfl rfl rfl hl.1 rfl (Nat.le_of_ble_eq_true rfl) dX11_looksAs_77 ⟨Nat.zero_le _, Nat.zero_le _⟩ (W' := [cob oh 11 [.ref os, .ref ok, .ref ol, .ref ord, .int isk, .ref odd, .ref otp, .int (nI tpd), .ref olt, .int oat, .int obg, .int otk, .int ovl, .ref orw, .int (nI rmn), .ref oso, .ref osz, .ref oit, .ref oho, .ref ohe, .ref otr, .int (nI (tr1 (tcd, trc) 10).1), .int (nI q), .int opt], cin g os 51 (mR stp laws z cnt fogs arms kinds faiths places moved), cin g otr 30 ((tr1 (tcd, trc) 10).2)]) rfl (fun H locs hw => ?_)
  refine lv_iload_n hx hb dX11_looksAs_80 rfl (lv_at hl 2 rfl) ?_
  refine lv_iconst (v := 3) hx hb dX11_looksAs_81 (by decide) ?_
  refine lv_imul hx hb dX11_looksAs_82 ?_
  refine lv_aload_n hx hb dX11_looksAs_83 rfl (lv_at hl 0 rfl) ?_
  refine rg hf hk hw hinX11 0 rfl rfl 22 (by decide) w_0 rfl dX11_looksAs_84 ?_
  refine lv_isub hx hb dX11_looksAs_87 ?_
  exact re_i hf hr hlk hw (rfl) (rfl) dX11_looksAs_88
abbrev rmX11_looksAs_2_4 : Room := { frames := 2, cells := 0, slots := 0, locals := 43 }
set_option maxHeartbeats 4000000 in
set_option maxRecDepth 100000 in
theorem c_X11_looksAs_2_4 (l : Launch) (g : GG) (oh : Nat) (os : Nat) (ok : Nat) (ol : Nat) (ord : Nat) (odd : Nat) (otp : Nat) (olt : Nat) (orw : Nat) (oso : Nat) (osz : Nat) (oit : Nat) (oho : Nat) (ohe : Nat) (otr : Nat) (stp : Nat) (laws : Nat → Int32) (z : Int32) (cnt : Nat) (fogs : Nat → Int32) (arms : Nat → Int32) (kinds : Nat → Int32) (faiths : Nat → Int32) (places : Nat → Int32) (moved : Nat → Int32) (isk : Int32) (tpd : Nat) (oat : Int32) (obg : Int32) (otk : Int32) (ovl : Int32) (rmn : Nat) (tcd : Nat) (opt : Int32) (trc : Nat → Int32) (q : Nat) (x : Int32) (hq8 : q < 8) (hkq : kinds q = 4) (hbg : tcd ≤ 30) : mt l g yX11_looksAs wsX11_looksAs rmX11_looksAs_2_4 [.ref oh, .int 2, .int x] [cob oh 11 [.ref os, .ref ok, .ref ol, .ref ord, .int isk, .ref odd, .ref otp, .int (nI tpd), .ref olt, .int oat, .int obg, .int otk, .int ovl, .ref orw, .int (nI rmn), .ref oso, .ref osz, .ref oit, .ref oho, .ref ohe, .ref otr, .int (nI tcd), .int (nI q), .int opt], cin g os 51 (mR stp laws z cnt fogs arms kinds faiths places moved), cin g otr 30 trc] (some (.int (((x * 3) - (nI q)) * 2))) [cob oh 11 [.ref os, .ref ok, .ref ol, .ref ord, .int isk, .ref odd, .ref otp, .int (nI tpd), .ref olt, .int oat, .int obg, .int otk, .int ovl, .ref orw, .int (nI rmn), .ref oso, .ref osz, .ref oit, .ref oho, .ref ohe, .ref otr, .int (nI (tr1 (tr1 (tcd, trc) 30) 10).1), .int (nI q), .int opt], cin g os 51 (mR stp laws z cnt fogs arms kinds faiths places moved), cin g otr 30 ((tr1 (tr1 (tcd, trc) 30) 10).2)] := by
  refine mt.of (cc := cX11_looksAs) (nL := 3) (ret := (some .int)) (own := RX11) (by decide +kernel) rfl rfl (show ([oh, os, otr] : List Nat) = [oh, os, otr] from rfl) (Nat.le_of_ble_eq_true rfl) (fun p e s m below meth c hf hr hlk _ hk hst hw ls hl => ?_)
  have hx := hf.1
  have hb := hf.2.1
  have hts := hf.2.2.2.2
  have hl : lv_has ls 3 [(0, .ref oh), (1, .int 2), (2, .int x)] := hl
  refine lv_iload_n hx hb dX11_looksAs_0 rfl (lv_at hl 1 rfl) ?_
  refine lv_tableIn (off := 27) (tgt := 28) hx hb dX11_looksAs_1 (by decide) (by decide) (by rfl) (by decide) ?_
  refine lv_aload_n hx hb dX11_looksAs_28 rfl (lv_at hl 0 rfl) ?_
  refine lv_bipush (v := 30) hx hb dX11_looksAs_29 (by decide) ?_
  refine mcV hf hk hst hw (c_X11_starts l g oh os ok ol ord odd otp olt orw oso osz oit oho ohe otr isk tpd oat obg otk ovl rmn tcd (nI q) opt trc 30 (by first | omega | ((repeat apply tr1_le); dsimp only; omega))) (cwV 1 hts gX11_looksAs_X11_starts rfl rfl rfl hdV_X11_starts ⟨Nat.le_of_ble_eq_true rfl, Nat.le_of_ble_eq_true rfl⟩) [0, 2] rfl rfl 0 rfl rfl rfl hl.1 rfl (Nat.le_of_ble_eq_true rfl) dX11_looksAs_31 ⟨Nat.zero_le _, Nat.zero_le _⟩ (W' := [cob oh 11 [.ref os, .ref ok, .ref ol, .ref ord, .int isk, .ref odd, .ref otp, .int (nI tpd), .ref olt, .int oat, .int obg, .int otk, .int ovl, .ref orw, .int (nI rmn), .ref oso, .ref osz, .ref oit, .ref oho, .ref ohe, .ref otr, .int (nI (tr1 (tcd, trc) 30).1), .int (nI q), .int opt], cin g os 51 (mR stp laws z cnt fogs arms kinds faiths places moved), cin g otr 30 ((tr1 (tcd, trc) 30).2)]) rfl (fun H locs hw => ?_)
  refine lv_aload_n hx hb dX11_looksAs_34 rfl (lv_at hl 0 rfl) ?_
  refine lv_iconst (v := 0) hx hb dX11_looksAs_35 (by decide) ?_
  refine lv_iload_n hx hb dX11_looksAs_36 rfl (lv_at hl 2 rfl) ?_
  refine mcV hf hk hst hw (c_X11_looksAs_0_4 l g oh os ok ol ord odd otp olt orw oso osz oit oho ohe otr stp laws z cnt fogs arms kinds faiths places moved isk tpd oat obg otk ovl rmn ((tr1 (tcd, trc) 30).1) opt ((tr1 (tcd, trc) 30).2) q x (by omega) (hkq) (by first | omega | ((repeat apply tr1_le); dsimp only; omega))) (cwV 2 hts gX11_looksAs_X11_looksAs rfl rfl rfl hdV_X11_looksAs ⟨Nat.le_of_ble_eq_true rfl, Nat.le_of_ble_eq_true rfl⟩) [0, 1, 2] rfl rfl 0 rfl rfl rfl hl.1 rfl (Nat.le_of_ble_eq_true rfl) dX11_looksAs_37 ⟨Nat.zero_le _, Nat.zero_le _⟩ (W' := [cob oh 11 [.ref os, .ref ok, .ref ol, .ref ord, .int isk, .ref odd, .ref otp, .int (nI tpd), .ref olt, .int oat, .int obg, .int otk, .int ovl, .ref orw, .int (nI rmn), .ref oso, .ref osz, .ref oit, .ref oho, .ref ohe, .ref otr, .int (nI (tr1 (((tr1 (tcd, trc) 30).1), ((tr1 (tcd, trc) 30).2)) 10).1), .int (nI q), .int opt], cin g os 51 (mR stp laws z cnt fogs arms kinds faiths places moved), cin g otr 30 ((tr1 (((tr1 (tcd, trc) 30).1), ((tr1 (tcd, trc) 30).2)) 10).2)]) rfl (fun H locs hw => ?_)
  refine lv_iconst (v := 2) hx hb dX11_looksAs_40 (by decide) ?_
  refine lv_imul hx hb dX11_looksAs_41 ?_
  exact re_i hf hr hlk hw (rfl) (by simp only [pr_eta]) dX11_looksAs_42
abbrev rmX11_looksAs_4_4 : Room := { frames := 3, cells := 0, slots := 0, locals := 65 }
set_option maxHeartbeats 4000000 in
set_option maxRecDepth 100000 in
theorem c_X11_looksAs_4_4 (l : Launch) (g : GG) (oh : Nat) (os : Nat) (ok : Nat) (ol : Nat) (ord : Nat) (odd : Nat) (otp : Nat) (olt : Nat) (orw : Nat) (oso : Nat) (osz : Nat) (oit : Nat) (oho : Nat) (ohe : Nat) (otr : Nat) (stp : Nat) (laws : Nat → Int32) (z : Int32) (cnt : Nat) (fogs : Nat → Int32) (arms : Nat → Int32) (kinds : Nat → Int32) (faiths : Nat → Int32) (places : Nat → Int32) (moved : Nat → Int32) (isk : Int32) (tpd : Nat) (oat : Int32) (obg : Int32) (otk : Int32) (ovl : Int32) (rmn : Nat) (tcd : Nat) (opt : Int32) (trc : Nat → Int32) (q : Nat) (x : Int32) (hq8 : q < 8) (hkq : kinds q = 4) (hbg : tcd ≤ 30) : mt l g yX11_looksAs wsX11_looksAs rmX11_looksAs_4_4 [.ref oh, .int 4, .int x] [cob oh 11 [.ref os, .ref ok, .ref ol, .ref ord, .int isk, .ref odd, .ref otp, .int (nI tpd), .ref olt, .int oat, .int obg, .int otk, .int ovl, .ref orw, .int (nI rmn), .ref oso, .ref osz, .ref oit, .ref oho, .ref ohe, .ref otr, .int (nI tcd), .int (nI q), .int opt], cin g os 51 (mR stp laws z cnt fogs arms kinds faiths places moved), cin g otr 30 trc] (some (.int ((((x * 3) - (nI q)) * 2) ^^^ 9))) [cob oh 11 [.ref os, .ref ok, .ref ol, .ref ord, .int isk, .ref odd, .ref otp, .int (nI tpd), .ref olt, .int oat, .int obg, .int otk, .int ovl, .ref orw, .int (nI rmn), .ref oso, .ref osz, .ref oit, .ref oho, .ref ohe, .ref otr, .int (nI (tr1 (tr1 (tr1 (tcd, trc) 40) 30) 10).1), .int (nI q), .int opt], cin g os 51 (mR stp laws z cnt fogs arms kinds faiths places moved), cin g otr 30 ((tr1 (tr1 (tr1 (tcd, trc) 40) 30) 10).2)] := by
  refine mt.of (cc := cX11_looksAs) (nL := 3) (ret := (some .int)) (own := RX11) (by decide +kernel) rfl rfl (show ([oh, os, otr] : List Nat) = [oh, os, otr] from rfl) (Nat.le_of_ble_eq_true rfl) (fun p e s m below meth c hf hr hlk _ hk hst hw ls hl => ?_)
  have hx := hf.1
  have hb := hf.2.1
  have hts := hf.2.2.2.2
  have hl : lv_has ls 3 [(0, .ref oh), (1, .int 4), (2, .int x)] := hl
  refine lv_iload_n hx hb dX11_looksAs_0 rfl (lv_at hl 1 rfl) ?_
  refine lv_tableIn (off := 57) (tgt := 58) hx hb dX11_looksAs_1 (by decide) (by decide) (by rfl) (by decide) ?_
  refine lv_aload_n hx hb dX11_looksAs_58 rfl (lv_at hl 0 rfl) ?_
  refine lv_bipush (v := 40) hx hb dX11_looksAs_59 (by decide) ?_
  refine mcV hf hk hst hw (c_X11_starts l g oh os ok ol ord odd otp olt orw oso osz oit oho ohe otr isk tpd oat obg otk ovl rmn tcd (nI q) opt trc 40 (by first | omega | ((repeat apply tr1_le); dsimp only; omega))) (cwV 1 hts gX11_looksAs_X11_starts rfl rfl rfl hdV_X11_starts ⟨Nat.le_of_ble_eq_true rfl, Nat.le_of_ble_eq_true rfl⟩) [0, 2] rfl rfl 0 rfl rfl rfl hl.1 rfl (Nat.le_of_ble_eq_true rfl) dX11_looksAs_61 ⟨Nat.zero_le _, Nat.zero_le _⟩ (W' := [cob oh 11 [.ref os, .ref ok, .ref ol, .ref ord, .int isk, .ref odd, .ref otp, .int (nI tpd), .ref olt, .int oat, .int obg, .int otk, .int ovl, .ref orw, .int (nI rmn), .ref oso, .ref osz, .ref oit, .ref oho, .ref ohe, .ref otr, .int (nI (tr1 (tcd, trc) 40).1), .int (nI q), .int opt], cin g os 51 (mR stp laws z cnt fogs arms kinds faiths places moved), cin g otr 30 ((tr1 (tcd, trc) 40).2)]) rfl (fun H locs hw => ?_)
  refine lv_aload_n hx hb dX11_looksAs_64 rfl (lv_at hl 0 rfl) ?_
  refine lv_iconst (v := 2) hx hb dX11_looksAs_65 (by decide) ?_
  refine lv_iload_n hx hb dX11_looksAs_66 rfl (lv_at hl 2 rfl) ?_
  refine mcV hf hk hst hw (c_X11_looksAs_2_4 l g oh os ok ol ord odd otp olt orw oso osz oit oho ohe otr stp laws z cnt fogs arms kinds faiths places moved isk tpd oat obg otk ovl rmn ((tr1 (tcd, trc) 40).1) opt ((tr1 (tcd, trc) 40).2) q x (by omega) (hkq) (by first | omega | ((repeat apply tr1_le); dsimp only; omega))) (cwV 2 hts gX11_looksAs_X11_looksAs rfl rfl rfl hdV_X11_looksAs ⟨Nat.le_of_ble_eq_true rfl, Nat.le_of_ble_eq_true rfl⟩) [0, 1, 2] rfl rfl 0 rfl rfl rfl hl.1 rfl (Nat.le_of_ble_eq_true rfl) dX11_looksAs_67 ⟨Nat.zero_le _, Nat.zero_le _⟩ (W' := [cob oh 11 [.ref os, .ref ok, .ref ol, .ref ord, .int isk, .ref odd, .ref otp, .int (nI tpd), .ref olt, .int oat, .int obg, .int otk, .int ovl, .ref orw, .int (nI rmn), .ref oso, .ref osz, .ref oit, .ref oho, .ref ohe, .ref otr, .int (nI (tr1 (tr1 (((tr1 (tcd, trc) 40).1), ((tr1 (tcd, trc) 40).2)) 30) 10).1), .int (nI q), .int opt], cin g os 51 (mR stp laws z cnt fogs arms kinds faiths places moved), cin g otr 30 ((tr1 (tr1 (((tr1 (tcd, trc) 40).1), ((tr1 (tcd, trc) 40).2)) 30) 10).2)]) rfl (fun H locs hw => ?_)
  refine lv_bipush (v := 9) hx hb dX11_looksAs_70 (by decide) ?_
  refine lv_ixor hx hb dX11_looksAs_72 ?_
  exact re_i hf hr hlk hw (rfl) (by simp only [pr_eta]) dX11_looksAs_73
abbrev rmX11_looksAs_5_5 : Room := { frames := 1, cells := 0, slots := 0, locals := 21 }
set_option maxHeartbeats 4000000 in
set_option maxRecDepth 100000 in
theorem c_X11_looksAs_5_5 (l : Launch) (g : GG) (oh : Nat) (os : Nat) (ok : Nat) (ol : Nat) (ord : Nat) (odd : Nat) (otp : Nat) (olt : Nat) (orw : Nat) (oso : Nat) (osz : Nat) (oit : Nat) (oho : Nat) (ohe : Nat) (otr : Nat) (stp : Nat) (laws : Nat → Int32) (z : Int32) (cnt : Nat) (fogs : Nat → Int32) (arms : Nat → Int32) (kinds : Nat → Int32) (faiths : Nat → Int32) (places : Nat → Int32) (moved : Nat → Int32) (isk : Int32) (tpd : Nat) (oat : Int32) (obg : Int32) (otk : Int32) (ovl : Int32) (rmn : Nat) (tcd : Nat) (opt : Int32) (trc : Nat → Int32) (q : Nat) (x : Int32) (hq8 : q < 8) (hkq : kinds q = 5) (hbg : tcd ≤ 30) : mt l g yX11_looksAs wsX11_looksAs rmX11_looksAs_5_5 [.ref oh, .int 5, .int x] [cob oh 11 [.ref os, .ref ok, .ref ol, .ref ord, .int isk, .ref odd, .ref otp, .int (nI tpd), .ref olt, .int oat, .int obg, .int otk, .int ovl, .ref orw, .int (nI rmn), .ref oso, .ref osz, .ref oit, .ref oho, .ref ohe, .ref otr, .int (nI tcd), .int (nI q), .int opt], cin g os 51 (mR stp laws z cnt fogs arms kinds faiths places moved), cin g otr 30 trc] (some (.int ((x * 3) - (nI q)))) [cob oh 11 [.ref os, .ref ok, .ref ol, .ref ord, .int isk, .ref odd, .ref otp, .int (nI tpd), .ref olt, .int oat, .int obg, .int otk, .int ovl, .ref orw, .int (nI rmn), .ref oso, .ref osz, .ref oit, .ref oho, .ref ohe, .ref otr, .int (nI (tr1 (tcd, trc) 10).1), .int (nI q), .int opt], cin g os 51 (mR stp laws z cnt fogs arms kinds faiths places moved), cin g otr 30 ((tr1 (tcd, trc) 10).2)] := by
  refine mt.of (cc := cX11_looksAs) (nL := 3) (ret := (some .int)) (own := RX11) (by decide +kernel) rfl rfl (show ([oh, os, otr] : List Nat) = [oh, os, otr] from rfl) (Nat.le_of_ble_eq_true rfl) (fun p e s m below meth c hf hr hlk _ hk hst hw ls hl => ?_)
  have hx := hf.1
  have hb := hf.2.1
  have hts := hf.2.2.2.2
  have hl : lv_has ls 3 [(0, .ref oh), (1, .int 5), (2, .int x)] := hl
  have hinX11 : ∀ w ∈ u_ws RX11 TX11 24, w ∈ wsX11_looksAs := fun w h => List.mem_cons_of_mem _ (List.mem_append_right _ h)
  have w_0 : Cond.fieldLink RX11 244 "LightManModel" "own" "I" ∈ wsX11_looksAs := List.mem_of_getElem? (i := 1) rfl
  refine lv_iload_n hx hb dX11_looksAs_0 rfl (lv_at hl 1 rfl) ?_
  refine lv_tableOut (tgt := 74) hx hb dX11_looksAs_1 (by decide) (by decide) ?_
  refine lv_aload_n hx hb dX11_looksAs_74 rfl (lv_at hl 0 rfl) ?_
  refine lv_bipush (v := 10) hx hb dX11_looksAs_75 (by decide) ?_
  refine mcV hf hk hst hw (c_X11_starts l g oh os ok ol ord odd otp olt orw oso osz oit oho ohe otr isk tpd oat obg otk ovl rmn tcd (nI q) opt trc 10 (by first | omega | ((repeat apply tr1_le); dsimp only; omega))) (cwV 1 hts gX11_looksAs_X11_starts rfl rfl rfl hdV_X11_starts ⟨Nat.le_of_ble_eq_true rfl, Nat.le_of_ble_eq_true rfl⟩) [0, 2] rfl rfl 0 rfl rfl rfl hl.1 rfl (Nat.le_of_ble_eq_true rfl) dX11_looksAs_77 ⟨Nat.zero_le _, Nat.zero_le _⟩ (W' := [cob oh 11 [.ref os, .ref ok, .ref ol, .ref ord, .int isk, .ref odd, .ref otp, .int (nI tpd), .ref olt, .int oat, .int obg, .int otk, .int ovl, .ref orw, .int (nI rmn), .ref oso, .ref osz, .ref oit, .ref oho, .ref ohe, .ref otr, .int (nI (tr1 (tcd, trc) 10).1), .int (nI q), .int opt], cin g os 51 (mR stp laws z cnt fogs arms kinds faiths places moved), cin g otr 30 ((tr1 (tcd, trc) 10).2)]) rfl (fun H locs hw => ?_)
  refine lv_iload_n hx hb dX11_looksAs_80 rfl (lv_at hl 2 rfl) ?_
  refine lv_iconst (v := 3) hx hb dX11_looksAs_81 (by decide) ?_
  refine lv_imul hx hb dX11_looksAs_82 ?_
  refine lv_aload_n hx hb dX11_looksAs_83 rfl (lv_at hl 0 rfl) ?_
  refine rg hf hk hw hinX11 0 rfl rfl 22 (by decide) w_0 rfl dX11_looksAs_84 ?_
  refine lv_isub hx hb dX11_looksAs_87 ?_
  exact re_i hf hr hlk hw (rfl) (rfl) dX11_looksAs_88
abbrev rmX11_walksAs_0_0 : Room := { frames := 2, cells := 0, slots := 0, locals := 43 }
set_option maxHeartbeats 4000000 in
set_option maxRecDepth 100000 in
theorem c_X11_walksAs_0_0 (l : Launch) (g : GG) (oh : Nat) (os : Nat) (ok : Nat) (ol : Nat) (ord : Nat) (odd : Nat) (otp : Nat) (olt : Nat) (orw : Nat) (oso : Nat) (osz : Nat) (oit : Nat) (oho : Nat) (ohe : Nat) (otr : Nat) (stp : Nat) (laws : Nat → Int32) (z : Int32) (cnt : Nat) (fogs : Nat → Int32) (arms : Nat → Int32) (kinds : Nat → Int32) (faiths : Nat → Int32) (places : Nat → Int32) (moved : Nat → Int32) (isk : Int32) (tpd : Nat) (oat : Int32) (obg : Int32) (otk : Int32) (ovl : Int32) (rmn : Nat) (tcd : Nat) (opt : Int32) (trc : Nat → Int32) (q : Nat) (x : Int32) (hq8 : q < 8) (hkq : kinds q = 0) (hbg : tcd ≤ 30) : mt l g yX11_walksAs wsX11_walksAs rmX11_walksAs_0_0 [.ref oh, .int 0, .int x] [cob oh 11 [.ref os, .ref ok, .ref ol, .ref ord, .int isk, .ref odd, .ref otp, .int (nI tpd), .ref olt, .int oat, .int obg, .int otk, .int ovl, .ref orw, .int (nI rmn), .ref oso, .ref osz, .ref oit, .ref oho, .ref ohe, .ref otr, .int (nI tcd), .int (nI q), .int opt], cin g os 51 (mR stp laws z cnt fogs arms kinds faiths places moved), cin g otr 30 trc] (some (.int (((x * 3) - (nI q)) + ((places q) * 6)))) [cob oh 11 [.ref os, .ref ok, .ref ol, .ref ord, .int isk, .ref odd, .ref otp, .int (nI tpd), .ref olt, .int oat, .int obg, .int otk, .int ovl, .ref orw, .int (nI rmn), .ref oso, .ref osz, .ref oit, .ref oho, .ref ohe, .ref otr, .int (nI (tr1 (tr1 (tcd, trc) 11) 10).1), .int (nI q), .int opt], cin g os 51 (mR stp laws z cnt fogs arms kinds faiths places moved), cin g otr 30 ((tr1 (tr1 (tcd, trc) 11) 10).2)] := by
  refine mt.of (cc := cX11_walksAs) (nL := 4) (ret := (some .int)) (own := RX11) (by decide +kernel) rfl rfl (show ([oh, os, otr] : List Nat) = [oh, os, otr] from rfl) (Nat.le_of_ble_eq_true rfl) (fun p e s m below meth c hf hr hlk _ hk hst hw ls hl => ?_)
  have hx := hf.1
  have hb := hf.2.1
  have hts := hf.2.2.2.2
  have hl : lv_has ls 4 [(0, .ref oh), (1, .int 0), (2, .int x)] := hl
  have hinX11 : ∀ w ∈ u_ws RX11 TX11 24, w ∈ wsX11_walksAs := fun w h => List.mem_cons_of_mem _ (List.mem_append_right _ h)
  have w_0 : Cond.fieldLink RX11 244 "LightManModel" "own" "I" ∈ wsX11_walksAs := List.mem_of_getElem? (i := 1) rfl
  refine lv_iload_n hx hb dX11_walksAs_0 rfl (lv_at hl 1 rfl) ?_
  refine lv_iconst (v := 1) hx hb dX11_walksAs_1 (by decide) ?_
  refine lv_icmp_eq (tgt := 10) hx hb dX11_walksAs_2 (by decide) (fun q => absurd q (by decide)) (fun _ => ?_)
  refine lv_iload_n hx hb dX11_walksAs_5 rfl (lv_at hl 1 rfl) ?_
  refine lv_iconst (v := 3) hx hb dX11_walksAs_6 (by decide) ?_
  refine lv_icmp_ne (tgt := 24) hx hb dX11_walksAs_7 (by decide) (fun _ => ?_) (fun q => absurd q (by decide))
  refine lv_iload_n hx hb dX11_walksAs_24 rfl (lv_at hl 1 rfl) ?_
  refine lv_iconst (v := 4) hx hb dX11_walksAs_25 (by decide) ?_
  refine lv_icmp_ne (tgt := 59) hx hb dX11_walksAs_26 (by decide) (fun _ => ?_) (fun q => absurd q (by decide))
  refine lv_aload_n hx hb dX11_walksAs_59 rfl (lv_at hl 0 rfl) ?_
  refine lv_bipush (v := 11) hx hb dX11_walksAs_60 (by decide) ?_
  refine mcV hf hk hst hw (c_X11_starts l g oh os ok ol ord odd otp olt orw oso osz oit oho ohe otr isk tpd oat obg otk ovl rmn tcd (nI q) opt trc 11 (by first | omega | ((repeat apply tr1_le); dsimp only; omega))) (cwV 1 hts gX11_walksAs_X11_starts rfl rfl rfl hdV_X11_starts ⟨Nat.le_of_ble_eq_true rfl, Nat.le_of_ble_eq_true rfl⟩) [0, 2] rfl rfl 0 rfl rfl rfl hl.1 rfl (Nat.le_of_ble_eq_true rfl) dX11_walksAs_62 ⟨Nat.zero_le _, Nat.zero_le _⟩ (W' := [cob oh 11 [.ref os, .ref ok, .ref ol, .ref ord, .int isk, .ref odd, .ref otp, .int (nI tpd), .ref olt, .int oat, .int obg, .int otk, .int ovl, .ref orw, .int (nI rmn), .ref oso, .ref osz, .ref oit, .ref oho, .ref ohe, .ref otr, .int (nI (tr1 (tcd, trc) 11).1), .int (nI q), .int opt], cin g os 51 (mR stp laws z cnt fogs arms kinds faiths places moved), cin g otr 30 ((tr1 (tcd, trc) 11).2)]) rfl (fun H locs hw => ?_)
  refine lv_aload_n hx hb dX11_walksAs_65 rfl (lv_at hl 0 rfl) ?_
  refine lv_aload_n hx hb dX11_walksAs_66 rfl (lv_at hl 0 rfl) ?_
  refine lv_aload_n hx hb dX11_walksAs_67 rfl (lv_at hl 0 rfl) ?_
  refine rg hf hk hw hinX11 0 rfl rfl 22 (by decide) w_0 rfl dX11_walksAs_68 ?_
  refine lv_iconst (v := 0) hx hb dX11_walksAs_71 (by decide) ?_
  refine mcV hf hk hst hw (c_X11_get0 l g oh os ok ol ord odd otp olt orw oso osz oit oho ohe otr stp laws z cnt fogs arms kinds faiths places moved isk tpd oat obg otk ovl rmn ((tr1 (tcd, trc) 11).1) (nI q) opt q (by omega)) (cwV 2 hts gX11_walksAs_X11_get rfl rfl rfl hdV_X11_get ⟨Nat.le_of_ble_eq_true rfl, Nat.le_of_ble_eq_true rfl⟩) [0, 1] rfl rfl 0 rfl rfl rfl hl.1 rfl (Nat.le_of_ble_eq_true rfl) dX11_walksAs_72 ⟨Nat.zero_le _, Nat.zero_le _⟩ (W' := [cob oh 11 [.ref os, .ref ok, .ref ol, .ref ord, .int isk, .ref odd, .ref otp, .int (nI tpd), .ref olt, .int oat, .int obg, .int otk, .int ovl, .ref orw, .int (nI rmn), .ref oso, .ref osz, .ref oit, .ref oho, .ref ohe, .ref otr, .int (nI ((tr1 (tcd, trc) 11).1)), .int (nI q), .int opt], cin g os 51 (mR stp laws z cnt fogs arms kinds faiths places moved), cin g otr 30 ((tr1 (tcd, trc) 11).2)]) rfl (fun H locs hw => ?_)
  refine lv_tope (y := 0) (hkq) ?_
  refine lv_iload_n hx hb dX11_walksAs_75 rfl (lv_at hl 2 rfl) ?_
  refine mcV hf hk hst hw (c_X11_looksAs_0_0 l g oh os ok ol ord odd otp olt orw oso osz oit oho ohe otr stp laws z cnt fogs arms kinds faiths places moved isk tpd oat obg otk ovl rmn ((tr1 (tcd, trc) 11).1) opt ((tr1 (tcd, trc) 11).2) q x (by omega) (hkq) (by first | omega | ((repeat apply tr1_le); dsimp only; omega))) (cwV 2 hts gX11_walksAs_X11_looksAs rfl rfl rfl hdV_X11_looksAs ⟨Nat.le_of_ble_eq_true rfl, Nat.le_of_ble_eq_true rfl⟩) [0, 1, 2] rfl rfl 0 rfl rfl rfl hl.1 rfl (Nat.le_of_ble_eq_true rfl) dX11_walksAs_76 ⟨Nat.zero_le _, Nat.zero_le _⟩ (W' := [cob oh 11 [.ref os, .ref ok, .ref ol, .ref ord, .int isk, .ref odd, .ref otp, .int (nI tpd), .ref olt, .int oat, .int obg, .int otk, .int ovl, .ref orw, .int (nI rmn), .ref oso, .ref osz, .ref oit, .ref oho, .ref ohe, .ref otr, .int (nI (tr1 (((tr1 (tcd, trc) 11).1), ((tr1 (tcd, trc) 11).2)) 10).1), .int (nI q), .int opt], cin g os 51 (mR stp laws z cnt fogs arms kinds faiths places moved), cin g otr 30 ((tr1 (((tr1 (tcd, trc) 11).1), ((tr1 (tcd, trc) 11).2)) 10).2)]) rfl (fun H locs hw => ?_)
  refine lv_aload_n hx hb dX11_walksAs_79 rfl (lv_at hl 0 rfl) ?_
  refine lv_aload_n hx hb dX11_walksAs_80 rfl (lv_at hl 0 rfl) ?_
  refine rg hf hk hw hinX11 0 rfl rfl 22 (by decide) w_0 rfl dX11_walksAs_81 ?_
  refine lv_iconst (v := 2) hx hb dX11_walksAs_84 (by decide) ?_
  refine mcV hf hk hst hw (c_X11_get2 l g oh os ok ol ord odd otp olt orw oso osz oit oho ohe otr stp laws z cnt fogs arms kinds faiths places moved isk tpd oat obg otk ovl rmn ((tr1 (((tr1 (tcd, trc) 11).1), ((tr1 (tcd, trc) 11).2)) 10).1) (nI q) opt q (by omega)) (cwV 2 hts gX11_walksAs_X11_get rfl rfl rfl hdV_X11_get ⟨Nat.le_of_ble_eq_true rfl, Nat.le_of_ble_eq_true rfl⟩) [0, 1] rfl rfl 0 rfl rfl rfl hl.1 rfl (Nat.le_of_ble_eq_true rfl) dX11_walksAs_85 ⟨Nat.zero_le _, Nat.zero_le _⟩ (W' := [cob oh 11 [.ref os, .ref ok, .ref ol, .ref ord, .int isk, .ref odd, .ref otp, .int (nI tpd), .ref olt, .int oat, .int obg, .int otk, .int ovl, .ref orw, .int (nI rmn), .ref oso, .ref osz, .ref oit, .ref oho, .ref ohe, .ref otr, .int (nI ((tr1 (((tr1 (tcd, trc) 11).1), ((tr1 (tcd, trc) 11).2)) 10).1)), .int (nI q), .int opt], cin g os 51 (mR stp laws z cnt fogs arms kinds faiths places moved), cin g otr 30 ((tr1 (((tr1 (tcd, trc) 11).1), ((tr1 (tcd, trc) 11).2)) 10).2)]) rfl (fun H locs hw => ?_)
  refine lv_bipush (v := 6) hx hb dX11_walksAs_88 (by decide) ?_
  refine lv_imul hx hb dX11_walksAs_90 ?_
  refine lv_iadd hx hb dX11_walksAs_91 ?_
  exact re_i hf hr hlk hw (rfl) (by simp only [pr_eta]) dX11_walksAs_92
abbrev rmX11_walksAs_0_1 : Room := { frames := 2, cells := 0, slots := 0, locals := 43 }
set_option maxHeartbeats 4000000 in
set_option maxRecDepth 100000 in
theorem c_X11_walksAs_0_1 (l : Launch) (g : GG) (oh : Nat) (os : Nat) (ok : Nat) (ol : Nat) (ord : Nat) (odd : Nat) (otp : Nat) (olt : Nat) (orw : Nat) (oso : Nat) (osz : Nat) (oit : Nat) (oho : Nat) (ohe : Nat) (otr : Nat) (stp : Nat) (laws : Nat → Int32) (z : Int32) (cnt : Nat) (fogs : Nat → Int32) (arms : Nat → Int32) (kinds : Nat → Int32) (faiths : Nat → Int32) (places : Nat → Int32) (moved : Nat → Int32) (isk : Int32) (tpd : Nat) (oat : Int32) (obg : Int32) (otk : Int32) (ovl : Int32) (rmn : Nat) (tcd : Nat) (opt : Int32) (trc : Nat → Int32) (q : Nat) (x : Int32) (hq8 : q < 8) (hkq : kinds q = 1) (hbg : tcd ≤ 30) : mt l g yX11_walksAs wsX11_walksAs rmX11_walksAs_0_1 [.ref oh, .int 0, .int x] [cob oh 11 [.ref os, .ref ok, .ref ol, .ref ord, .int isk, .ref odd, .ref otp, .int (nI tpd), .ref olt, .int oat, .int obg, .int otk, .int ovl, .ref orw, .int (nI rmn), .ref oso, .ref osz, .ref oit, .ref oho, .ref ohe, .ref otr, .int (nI tcd), .int (nI q), .int opt], cin g os 51 (mR stp laws z cnt fogs arms kinds faiths places moved), cin g otr 30 trc] (some (.int (((x * 3) - (nI q)) + ((places q) * 6)))) [cob oh 11 [.ref os, .ref ok, .ref ol, .ref ord, .int isk, .ref odd, .ref otp, .int (nI tpd), .ref olt, .int oat, .int obg, .int otk, .int ovl, .ref orw, .int (nI rmn), .ref oso, .ref osz, .ref oit, .ref oho, .ref ohe, .ref otr, .int (nI (tr1 (tr1 (tcd, trc) 11) 10).1), .int (nI q), .int opt], cin g os 51 (mR stp laws z cnt fogs arms kinds faiths places moved), cin g otr 30 ((tr1 (tr1 (tcd, trc) 11) 10).2)] := by
  refine mt.of (cc := cX11_walksAs) (nL := 4) (ret := (some .int)) (own := RX11) (by decide +kernel) rfl rfl (show ([oh, os, otr] : List Nat) = [oh, os, otr] from rfl) (Nat.le_of_ble_eq_true rfl) (fun p e s m below meth c hf hr hlk _ hk hst hw ls hl => ?_)
  have hx := hf.1
  have hb := hf.2.1
  have hts := hf.2.2.2.2
  have hl : lv_has ls 4 [(0, .ref oh), (1, .int 0), (2, .int x)] := hl
  have hinX11 : ∀ w ∈ u_ws RX11 TX11 24, w ∈ wsX11_walksAs := fun w h => List.mem_cons_of_mem _ (List.mem_append_right _ h)
  have w_0 : Cond.fieldLink RX11 244 "LightManModel" "own" "I" ∈ wsX11_walksAs := List.mem_of_getElem? (i := 1) rfl
  refine lv_iload_n hx hb dX11_walksAs_0 rfl (lv_at hl 1 rfl) ?_
  refine lv_iconst (v := 1) hx hb dX11_walksAs_1 (by decide) ?_
  refine lv_icmp_eq (tgt := 10) hx hb dX11_walksAs_2 (by decide) (fun q => absurd q (by decide)) (fun _ => ?_)
  refine lv_iload_n hx hb dX11_walksAs_5 rfl (lv_at hl 1 rfl) ?_
  refine lv_iconst (v := 3) hx hb dX11_walksAs_6 (by decide) ?_
  refine lv_icmp_ne (tgt := 24) hx hb dX11_walksAs_7 (by decide) (fun _ => ?_) (fun q => absurd q (by decide))
  refine lv_iload_n hx hb dX11_walksAs_24 rfl (lv_at hl 1 rfl) ?_
  refine lv_iconst (v := 4) hx hb dX11_walksAs_25 (by decide) ?_
  refine lv_icmp_ne (tgt := 59) hx hb dX11_walksAs_26 (by decide) (fun _ => ?_) (fun q => absurd q (by decide))
  refine lv_aload_n hx hb dX11_walksAs_59 rfl (lv_at hl 0 rfl) ?_
  refine lv_bipush (v := 11) hx hb dX11_walksAs_60 (by decide) ?_
  refine mcV hf hk hst hw (c_X11_starts l g oh os ok ol ord odd otp olt orw oso osz oit oho ohe otr isk tpd oat obg otk ovl rmn tcd (nI q) opt trc 11 (by first | omega | ((repeat apply tr1_le); dsimp only; omega))) (cwV 1 hts gX11_walksAs_X11_starts rfl rfl rfl hdV_X11_starts ⟨Nat.le_of_ble_eq_true rfl, Nat.le_of_ble_eq_true rfl⟩) [0, 2] rfl rfl 0 rfl rfl rfl hl.1 rfl (Nat.le_of_ble_eq_true rfl) dX11_walksAs_62 ⟨Nat.zero_le _, Nat.zero_le _⟩ (W' := [cob oh 11 [.ref os, .ref ok, .ref ol, .ref ord, .int isk, .ref odd, .ref otp, .int (nI tpd), .ref olt, .int oat, .int obg, .int otk, .int ovl, .ref orw, .int (nI rmn), .ref oso, .ref osz, .ref oit, .ref oho, .ref ohe, .ref otr, .int (nI (tr1 (tcd, trc) 11).1), .int (nI q), .int opt], cin g os 51 (mR stp laws z cnt fogs arms kinds faiths places moved), cin g otr 30 ((tr1 (tcd, trc) 11).2)]) rfl (fun H locs hw => ?_)
  refine lv_aload_n hx hb dX11_walksAs_65 rfl (lv_at hl 0 rfl) ?_
  refine lv_aload_n hx hb dX11_walksAs_66 rfl (lv_at hl 0 rfl) ?_
  refine lv_aload_n hx hb dX11_walksAs_67 rfl (lv_at hl 0 rfl) ?_
  refine rg hf hk hw hinX11 0 rfl rfl 22 (by decide) w_0 rfl dX11_walksAs_68 ?_
  refine lv_iconst (v := 0) hx hb dX11_walksAs_71 (by decide) ?_
  refine mcV hf hk hst hw (c_X11_get0 l g oh os ok ol ord odd otp olt orw oso osz oit oho ohe otr stp laws z cnt fogs arms kinds faiths places moved isk tpd oat obg otk ovl rmn ((tr1 (tcd, trc) 11).1) (nI q) opt q (by omega)) (cwV 2 hts gX11_walksAs_X11_get rfl rfl rfl hdV_X11_get ⟨Nat.le_of_ble_eq_true rfl, Nat.le_of_ble_eq_true rfl⟩) [0, 1] rfl rfl 0 rfl rfl rfl hl.1 rfl (Nat.le_of_ble_eq_true rfl) dX11_walksAs_72 ⟨Nat.zero_le _, Nat.zero_le _⟩ (W' := [cob oh 11 [.ref os, .ref ok, .ref ol, .ref ord, .int isk, .ref odd, .ref otp, .int (nI tpd), .ref olt, .int oat, .int obg, .int otk, .int ovl, .ref orw, .int (nI rmn), .ref oso, .ref osz, .ref oit, .ref oho, .ref ohe, .ref otr, .int (nI ((tr1 (tcd, trc) 11).1)), .int (nI q), .int opt], cin g os 51 (mR stp laws z cnt fogs arms kinds faiths places moved), cin g otr 30 ((tr1 (tcd, trc) 11).2)]) rfl (fun H locs hw => ?_)
  refine lv_tope (y := 1) (hkq) ?_
  refine lv_iload_n hx hb dX11_walksAs_75 rfl (lv_at hl 2 rfl) ?_
  refine mcV hf hk hst hw (c_X11_looksAs_1_1 l g oh os ok ol ord odd otp olt orw oso osz oit oho ohe otr stp laws z cnt fogs arms kinds faiths places moved isk tpd oat obg otk ovl rmn ((tr1 (tcd, trc) 11).1) opt ((tr1 (tcd, trc) 11).2) q x (by omega) (hkq) (by first | omega | ((repeat apply tr1_le); dsimp only; omega))) (cwV 2 hts gX11_walksAs_X11_looksAs rfl rfl rfl hdV_X11_looksAs ⟨Nat.le_of_ble_eq_true rfl, Nat.le_of_ble_eq_true rfl⟩) [0, 1, 2] rfl rfl 0 rfl rfl rfl hl.1 rfl (Nat.le_of_ble_eq_true rfl) dX11_walksAs_76 ⟨Nat.zero_le _, Nat.zero_le _⟩ (W' := [cob oh 11 [.ref os, .ref ok, .ref ol, .ref ord, .int isk, .ref odd, .ref otp, .int (nI tpd), .ref olt, .int oat, .int obg, .int otk, .int ovl, .ref orw, .int (nI rmn), .ref oso, .ref osz, .ref oit, .ref oho, .ref ohe, .ref otr, .int (nI (tr1 (((tr1 (tcd, trc) 11).1), ((tr1 (tcd, trc) 11).2)) 10).1), .int (nI q), .int opt], cin g os 51 (mR stp laws z cnt fogs arms kinds faiths places moved), cin g otr 30 ((tr1 (((tr1 (tcd, trc) 11).1), ((tr1 (tcd, trc) 11).2)) 10).2)]) rfl (fun H locs hw => ?_)
  refine lv_aload_n hx hb dX11_walksAs_79 rfl (lv_at hl 0 rfl) ?_
  refine lv_aload_n hx hb dX11_walksAs_80 rfl (lv_at hl 0 rfl) ?_
  refine rg hf hk hw hinX11 0 rfl rfl 22 (by decide) w_0 rfl dX11_walksAs_81 ?_
  refine lv_iconst (v := 2) hx hb dX11_walksAs_84 (by decide) ?_
  refine mcV hf hk hst hw (c_X11_get2 l g oh os ok ol ord odd otp olt orw oso osz oit oho ohe otr stp laws z cnt fogs arms kinds faiths places moved isk tpd oat obg otk ovl rmn ((tr1 (((tr1 (tcd, trc) 11).1), ((tr1 (tcd, trc) 11).2)) 10).1) (nI q) opt q (by omega)) (cwV 2 hts gX11_walksAs_X11_get rfl rfl rfl hdV_X11_get ⟨Nat.le_of_ble_eq_true rfl, Nat.le_of_ble_eq_true rfl⟩) [0, 1] rfl rfl 0 rfl rfl rfl hl.1 rfl (Nat.le_of_ble_eq_true rfl) dX11_walksAs_85 ⟨Nat.zero_le _, Nat.zero_le _⟩ (W' := [cob oh 11 [.ref os, .ref ok, .ref ol, .ref ord, .int isk, .ref odd, .ref otp, .int (nI tpd), .ref olt, .int oat, .int obg, .int otk, .int ovl, .ref orw, .int (nI rmn), .ref oso, .ref osz, .ref oit, .ref oho, .ref ohe, .ref otr, .int (nI ((tr1 (((tr1 (tcd, trc) 11).1), ((tr1 (tcd, trc) 11).2)) 10).1)), .int (nI q), .int opt], cin g os 51 (mR stp laws z cnt fogs arms kinds faiths places moved), cin g otr 30 ((tr1 (((tr1 (tcd, trc) 11).1), ((tr1 (tcd, trc) 11).2)) 10).2)]) rfl (fun H locs hw => ?_)
  refine lv_bipush (v := 6) hx hb dX11_walksAs_88 (by decide) ?_
  refine lv_imul hx hb dX11_walksAs_90 ?_
  refine lv_iadd hx hb dX11_walksAs_91 ?_
  exact re_i hf hr hlk hw (rfl) (by simp only [pr_eta]) dX11_walksAs_92
theorem hdV_X11_walksAs : yX11_walksAs.cls = RX11 ∧ yX11_walksAs.cls ≠ "java/lang/invoke/MethodHandle" ∧ yX11_walksAs.cls ≠ "java/lang/invoke/VarHandle" ∧ (parseMethodDescriptor yX11_walksAs.desc).map (fun d => d.parameters.length) = some 2 := by decide +kernel
abbrev rmX11_walksAs_1_1 : Room := { frames := 3, cells := 0, slots := 0, locals := 66 }
set_option maxHeartbeats 4000000 in
set_option maxRecDepth 100000 in
theorem c_X11_walksAs_1_1 (l : Launch) (g : GG) (oh : Nat) (os : Nat) (ok : Nat) (ol : Nat) (ord : Nat) (odd : Nat) (otp : Nat) (olt : Nat) (orw : Nat) (oso : Nat) (osz : Nat) (oit : Nat) (oho : Nat) (ohe : Nat) (otr : Nat) (stp : Nat) (laws : Nat → Int32) (z : Int32) (cnt : Nat) (fogs : Nat → Int32) (arms : Nat → Int32) (kinds : Nat → Int32) (faiths : Nat → Int32) (places : Nat → Int32) (moved : Nat → Int32) (isk : Int32) (tpd : Nat) (oat : Int32) (obg : Int32) (otk : Int32) (ovl : Int32) (rmn : Nat) (tcd : Nat) (opt : Int32) (trc : Nat → Int32) (q : Nat) (x : Int32) (hq8 : q < 8) (hkq : kinds q = 1) (hbg : tcd ≤ 30) : mt l g yX11_walksAs wsX11_walksAs rmX11_walksAs_1_1 [.ref oh, .int 1, .int x] [cob oh 11 [.ref os, .ref ok, .ref ol, .ref ord, .int isk, .ref odd, .ref otp, .int (nI tpd), .ref olt, .int oat, .int obg, .int otk, .int ovl, .ref orw, .int (nI rmn), .ref oso, .ref osz, .ref oit, .ref oho, .ref ohe, .ref otr, .int (nI tcd), .int (nI q), .int opt], cin g os 51 (mR stp laws z cnt fogs arms kinds faiths places moved), cin g otr 30 trc] (some (.int (-(((x * 3) - (nI q)) + ((places q) * 6))))) [cob oh 11 [.ref os, .ref ok, .ref ol, .ref ord, .int isk, .ref odd, .ref otp, .int (nI tpd), .ref olt, .int oat, .int obg, .int otk, .int ovl, .ref orw, .int (nI rmn), .ref oso, .ref osz, .ref oit, .ref oho, .ref ohe, .ref otr, .int (nI (tr1 (tr1 (tr1 (tcd, trc) 20) 11) 10).1), .int (nI q), .int opt], cin g os 51 (mR stp laws z cnt fogs arms kinds faiths places moved), cin g otr 30 ((tr1 (tr1 (tr1 (tcd, trc) 20) 11) 10).2)] := by
  refine mt.of (cc := cX11_walksAs) (nL := 4) (ret := (some .int)) (own := RX11) (by decide +kernel) rfl rfl (show ([oh, os, otr] : List Nat) = [oh, os, otr] from rfl) (Nat.le_of_ble_eq_true rfl) (fun p e s m below meth c hf hr hlk _ hk hst hw ls hl => ?_)
  have hx := hf.1
  have hb := hf.2.1
  have hts := hf.2.2.2.2
  have hl : lv_has ls 4 [(0, .ref oh), (1, .int 1), (2, .int x)] := hl
  refine lv_iload_n hx hb dX11_walksAs_0 rfl (lv_at hl 1 rfl) ?_
  refine lv_iconst (v := 1) hx hb dX11_walksAs_1 (by decide) ?_
  refine lv_icmp_eq (tgt := 10) hx hb dX11_walksAs_2 (by decide) (fun _ => ?_) (fun q => absurd (by decide) q)
  refine lv_aload_n hx hb dX11_walksAs_10 rfl (lv_at hl 0 rfl) ?_
  refine lv_bipush (v := 20) hx hb dX11_walksAs_11 (by decide) ?_
  refine mcV hf hk hst hw (c_X11_starts l g oh os ok ol ord odd otp olt orw oso osz oit oho ohe otr isk tpd oat obg otk ovl rmn tcd (nI q) opt trc 20 (by first | omega | ((repeat apply tr1_le); dsimp only; omega))) (cwV 1 hts gX11_walksAs_X11_starts rfl rfl rfl hdV_X11_starts ⟨Nat.le_of_ble_eq_true rfl, Nat.le_of_ble_eq_true rfl⟩) [0, 2] rfl rfl 0 rfl rfl rfl hl.1 rfl (Nat.le_of_ble_eq_true rfl) dX11_walksAs_13 ⟨Nat.zero_le _, Nat.zero_le _⟩ (W' := [cob oh 11 [.ref os, .ref ok, .ref ol, .ref ord, .int isk, .ref odd, .ref otp, .int (nI tpd), .ref olt, .int oat, .int obg, .int otk, .int ovl, .ref orw, .int (nI rmn), .ref oso, .ref osz, .ref oit, .ref oho, .ref ohe, .ref otr, .int (nI (tr1 (tcd, trc) 20).1), .int (nI q), .int opt], cin g os 51 (mR stp laws z cnt fogs arms kinds faiths places moved), cin g otr 30 ((tr1 (tcd, trc) 20).2)]) rfl (fun H locs hw => ?_)
  refine lv_aload_n hx hb dX11_walksAs_16 rfl (lv_at hl 0 rfl) ?_
  refine lv_iconst (v := 0) hx hb dX11_walksAs_17 (by decide) ?_
  refine lv_iload_n hx hb dX11_walksAs_18 rfl (lv_at hl 2 rfl) ?_
  refine mcV hf hk hst hw (c_X11_walksAs_0_1 l g oh os ok ol ord odd otp olt orw oso osz oit oho ohe otr stp laws z cnt fogs arms kinds faiths places moved isk tpd oat obg otk ovl rmn ((tr1 (tcd, trc) 20).1) opt ((tr1 (tcd, trc) 20).2) q x (by omega) (hkq) (by first | omega | ((repeat apply tr1_le); dsimp only; omega))) (cwV 2 hts gX11_walksAs_X11_walksAs rfl rfl rfl hdV_X11_walksAs ⟨Nat.le_of_ble_eq_true rfl, Nat.le_of_ble_eq_true rfl⟩) [0, 1, 2] rfl rfl 0 rfl rfl rfl hl.1 rfl (Nat.le_of_ble_eq_true rfl) dX11_walksAs_19 ⟨Nat.zero_le _, Nat.zero_le _⟩ (W' := [cob oh 11 [.ref os, .ref ok, .ref ol, .ref ord, .int isk, .ref odd, .ref otp, .int (nI tpd), .ref olt, .int oat, .int obg, .int otk, .int ovl, .ref orw, .int (nI rmn), .ref oso, .ref osz, .ref oit, .ref oho, .ref ohe, .ref otr, .int (nI (tr1 (tr1 (((tr1 (tcd, trc) 20).1), ((tr1 (tcd, trc) 20).2)) 11) 10).1), .int (nI q), .int opt], cin g os 51 (mR stp laws z cnt fogs arms kinds faiths places moved), cin g otr 30 ((tr1 (tr1 (((tr1 (tcd, trc) 20).1), ((tr1 (tcd, trc) 20).2)) 11) 10).2)]) rfl (fun H locs hw => ?_)
  refine lv_ineg hx hb dX11_walksAs_22 ?_
  exact re_i hf hr hlk hw (rfl) (by simp only [pr_eta]) dX11_walksAs_23
abbrev rmX11_walksAs_2_2 : Room := { frames := 3, cells := 0, slots := 0, locals := 65 }
set_option maxHeartbeats 4000000 in
set_option maxRecDepth 100000 in
theorem c_X11_walksAs_2_2 (l : Launch) (g : GG) (oh : Nat) (os : Nat) (ok : Nat) (ol : Nat) (ord : Nat) (odd : Nat) (otp : Nat) (olt : Nat) (orw : Nat) (oso : Nat) (osz : Nat) (oit : Nat) (oho : Nat) (ohe : Nat) (otr : Nat) (stp : Nat) (laws : Nat → Int32) (z : Int32) (cnt : Nat) (fogs : Nat → Int32) (arms : Nat → Int32) (kinds : Nat → Int32) (faiths : Nat → Int32) (places : Nat → Int32) (moved : Nat → Int32) (isk : Int32) (tpd : Nat) (oat : Int32) (obg : Int32) (otk : Int32) (ovl : Int32) (rmn : Nat) (tcd : Nat) (opt : Int32) (trc : Nat → Int32) (q : Nat) (x : Int32) (hq8 : q < 8) (hkq : kinds q = 2) (hbg : tcd ≤ 30) : mt l g yX11_walksAs wsX11_walksAs rmX11_walksAs_2_2 [.ref oh, .int 2, .int x] [cob oh 11 [.ref os, .ref ok, .ref ol, .ref ord, .int isk, .ref odd, .ref otp, .int (nI tpd), .ref olt, .int oat, .int obg, .int otk, .int ovl, .ref orw, .int (nI rmn), .ref oso, .ref osz, .ref oit, .ref oho, .ref ohe, .ref otr, .int (nI tcd), .int (nI q), .int opt], cin g os 51 (mR stp laws z cnt fogs arms kinds faiths places moved), cin g otr 30 trc] (some (.int ((((x * 3) - (nI q)) * 2) + ((places q) * 6)))) [cob oh 11 [.ref os, .ref ok, .ref ol, .ref ord, .int isk, .ref odd, .ref otp, .int (nI tpd), .ref olt, .int oat, .int obg, .int otk, .int ovl, .ref orw, .int (nI rmn), .ref oso, .ref osz, .ref oit, .ref oho, .ref ohe, .ref otr, .int (nI (tr1 (tr1 (tr1 (tcd, trc) 11) 30) 10).1), .int (nI q), .int opt], cin g os 51 (mR stp laws z cnt fogs arms kinds faiths places moved), cin g otr 30 ((tr1 (tr1 (tr1 (tcd, trc) 11) 30) 10).2)] := by
  refine mt.of (cc := cX11_walksAs) (nL := 4) (ret := (some .int)) (own := RX11) (by decide +kernel) rfl rfl (show ([oh, os, otr] : List Nat) = [oh, os, otr] from rfl) (Nat.le_of_ble_eq_true rfl) (fun p e s m below meth c hf hr hlk _ hk hst hw ls hl => ?_)
  have hx := hf.1
  have hb := hf.2.1
  have hts := hf.2.2.2.2
  have hl : lv_has ls 4 [(0, .ref oh), (1, .int 2), (2, .int x)] := hl
  have hinX11 : ∀ w ∈ u_ws RX11 TX11 24, w ∈ wsX11_walksAs := fun w h => List.mem_cons_of_mem _ (List.mem_append_right _ h)
  have w_0 : Cond.fieldLink RX11 244 "LightManModel" "own" "I" ∈ wsX11_walksAs := List.mem_of_getElem? (i := 1) rfl
  refine lv_iload_n hx hb dX11_walksAs_0 rfl (lv_at hl 1 rfl) ?_
  refine lv_iconst (v := 1) hx hb dX11_walksAs_1 (by decide) ?_
  refine lv_icmp_eq (tgt := 10) hx hb dX11_walksAs_2 (by decide) (fun q => absurd q (by decide)) (fun _ => ?_)
  refine lv_iload_n hx hb dX11_walksAs_5 rfl (lv_at hl 1 rfl) ?_
  refine lv_iconst (v := 3) hx hb dX11_walksAs_6 (by decide) ?_
  refine lv_icmp_ne (tgt := 24) hx hb dX11_walksAs_7 (by decide) (fun _ => ?_) (fun q => absurd q (by decide))
  refine lv_iload_n hx hb dX11_walksAs_24 rfl (lv_at hl 1 rfl) ?_
  refine lv_iconst (v := 4) hx hb dX11_walksAs_25 (by decide) ?_
  refine lv_icmp_ne (tgt := 59) hx hb dX11_walksAs_26 (by decide) (fun _ => ?_) (fun q => absurd q (by decide))
  refine lv_aload_n hx hb dX11_walksAs_59 rfl (lv_at hl 0 rfl) ?_
  refine lv_bipush (v := 11) hx hb dX11_walksAs_60 (by decide) ?_
  refine mcV hf hk hst hw (c_X11_starts l g oh os ok ol ord odd otp olt orw oso osz oit oho ohe otr isk tpd oat obg otk ovl rmn tcd (nI q) opt trc 11 (by first | omega | ((repeat apply tr1_le); dsimp only; omega))) (cwV 1 hts gX11_walksAs_X11_starts rfl rfl rfl hdV_X11_starts ⟨Nat.le_of_ble_eq_true rfl, Nat.le_of_ble_eq_true rfl⟩) [0, 2] rfl rfl 0 rfl rfl rfl hl.1 rfl (Nat.le_of_ble_eq_true rfl) dX11_walksAs_62 ⟨Nat.zero_le _, Nat.zero_le _⟩ (W' := [cob oh 11 [.ref os, .ref ok, .ref ol, .ref ord, .int isk, .ref odd, .ref otp, .int (nI tpd), .ref olt, .int oat, .int obg, .int otk, .int ovl, .ref orw, .int (nI rmn), .ref oso, .ref osz, .ref oit, .ref oho, .ref ohe, .ref otr, .int (nI (tr1 (tcd, trc) 11).1), .int (nI q), .int opt], cin g os 51 (mR stp laws z cnt fogs arms kinds faiths places moved), cin g otr 30 ((tr1 (tcd, trc) 11).2)]) rfl (fun H locs hw => ?_)
  refine lv_aload_n hx hb dX11_walksAs_65 rfl (lv_at hl 0 rfl) ?_
  refine lv_aload_n hx hb dX11_walksAs_66 rfl (lv_at hl 0 rfl) ?_
  refine lv_aload_n hx hb dX11_walksAs_67 rfl (lv_at hl 0 rfl) ?_
  refine rg hf hk hw hinX11 0 rfl rfl 22 (by decide) w_0 rfl dX11_walksAs_68 ?_
  refine lv_iconst (v := 0) hx hb dX11_walksAs_71 (by decide) ?_
  refine mcV hf hk hst hw (c_X11_get0 l g oh os ok ol ord odd otp olt orw oso osz oit oho ohe otr stp laws z cnt fogs arms kinds faiths places moved isk tpd oat obg otk ovl rmn ((tr1 (tcd, trc) 11).1) (nI q) opt q (by omega)) (cwV 2 hts gX11_walksAs_X11_get rfl rfl rfl hdV_X11_get ⟨Nat.le_of_ble_eq_true rfl, Nat.le_of_ble_eq_true rfl⟩) [0, 1] rfl rfl 0 rfl rfl rfl hl.1 rfl (Nat.le_of_ble_eq_true rfl) dX11_walksAs_72 ⟨Nat.zero_le _, Nat.zero_le _⟩ (W' := [cob oh 11 [.ref os, .ref ok, .ref ol, .ref ord, .int isk, .ref odd, .ref otp, .int (nI tpd), .ref olt, .int oat, .int obg, .int otk, .int ovl, .ref orw, .int (nI rmn), .ref oso, .ref osz, .ref oit, .ref oho, .ref ohe, .ref otr, .int (nI ((tr1 (tcd, trc) 11).1)), .int (nI q), .int opt], cin g os 51 (mR stp laws z cnt fogs arms kinds faiths places moved), cin g otr 30 ((tr1 (tcd, trc) 11).2)]) rfl (fun H locs hw => ?_)
  refine lv_tope (y := 2) (hkq) ?_
  refine lv_iload_n hx hb dX11_walksAs_75 rfl (lv_at hl 2 rfl) ?_
  refine mcV hf hk hst hw (c_X11_looksAs_2_2 l g oh os ok ol ord odd otp olt orw oso osz oit oho ohe otr stp laws z cnt fogs arms kinds faiths places moved isk tpd oat obg otk ovl rmn ((tr1 (tcd, trc) 11).1) opt ((tr1 (tcd, trc) 11).2) q x (by omega) (hkq) (by first | omega | ((repeat apply tr1_le); dsimp only; omega))) (cwV 2 hts gX11_walksAs_X11_looksAs rfl rfl rfl hdV_X11_looksAs ⟨Nat.le_of_ble_eq_true rfl, Nat.le_of_ble_eq_true rfl⟩) [0, 1, 2] rfl rfl 0 rfl rfl rfl hl.1 rfl (Nat.le_of_ble_eq_true rfl) dX11_walksAs_76 ⟨Nat.zero_le _, Nat.zero_le _⟩ (W' := [cob oh 11 [.ref os, .ref ok, .ref ol, .ref ord, .int isk, .ref odd, .ref otp, .int (nI tpd), .ref olt, .int oat, .int obg, .int otk, .int ovl, .ref orw, .int (nI rmn), .ref oso, .ref osz, .ref oit, .ref oho, .ref ohe, .ref otr, .int (nI (tr1 (tr1 (((tr1 (tcd, trc) 11).1), ((tr1 (tcd, trc) 11).2)) 30) 10).1), .int (nI q), .int opt], cin g os 51 (mR stp laws z cnt fogs arms kinds faiths places moved), cin g otr 30 ((tr1 (tr1 (((tr1 (tcd, trc) 11).1), ((tr1 (tcd, trc) 11).2)) 30) 10).2)]) rfl (fun H locs hw => ?_)
  refine lv_aload_n hx hb dX11_walksAs_79 rfl (lv_at hl 0 rfl) ?_
  refine lv_aload_n hx hb dX11_walksAs_80 rfl (lv_at hl 0 rfl) ?_
  refine rg hf hk hw hinX11 0 rfl rfl 22 (by decide) w_0 rfl dX11_walksAs_81 ?_
  refine lv_iconst (v := 2) hx hb dX11_walksAs_84 (by decide) ?_
  refine mcV hf hk hst hw (c_X11_get2 l g oh os ok ol ord odd otp olt orw oso osz oit oho ohe otr stp laws z cnt fogs arms kinds faiths places moved isk tpd oat obg otk ovl rmn ((tr1 (tr1 (((tr1 (tcd, trc) 11).1), ((tr1 (tcd, trc) 11).2)) 30) 10).1) (nI q) opt q (by omega)) (cwV 2 hts gX11_walksAs_X11_get rfl rfl rfl hdV_X11_get ⟨Nat.le_of_ble_eq_true rfl, Nat.le_of_ble_eq_true rfl⟩) [0, 1] rfl rfl 0 rfl rfl rfl hl.1 rfl (Nat.le_of_ble_eq_true rfl) dX11_walksAs_85 ⟨Nat.zero_le _, Nat.zero_le _⟩ (W' := [cob oh 11 [.ref os, .ref ok, .ref ol, .ref ord, .int isk, .ref odd, .ref otp, .int (nI tpd), .ref olt, .int oat, .int obg, .int otk, .int ovl, .ref orw, .int (nI rmn), .ref oso, .ref osz, .ref oit, .ref oho, .ref ohe, .ref otr, .int (nI ((tr1 (tr1 (((tr1 (tcd, trc) 11).1), ((tr1 (tcd, trc) 11).2)) 30) 10).1)), .int (nI q), .int opt], cin g os 51 (mR stp laws z cnt fogs arms kinds faiths places moved), cin g otr 30 ((tr1 (tr1 (((tr1 (tcd, trc) 11).1), ((tr1 (tcd, trc) 11).2)) 30) 10).2)]) rfl (fun H locs hw => ?_)
  refine lv_bipush (v := 6) hx hb dX11_walksAs_88 (by decide) ?_
  refine lv_imul hx hb dX11_walksAs_90 ?_
  refine lv_iadd hx hb dX11_walksAs_91 ?_
  exact re_i hf hr hlk hw (rfl) (by simp only [pr_eta]) dX11_walksAs_92
abbrev rmX11_walksAs_0_3 : Room := { frames := 3, cells := 0, slots := 0, locals := 65 }
set_option maxHeartbeats 4000000 in
set_option maxRecDepth 100000 in
theorem c_X11_walksAs_0_3 (l : Launch) (g : GG) (oh : Nat) (os : Nat) (ok : Nat) (ol : Nat) (ord : Nat) (odd : Nat) (otp : Nat) (olt : Nat) (orw : Nat) (oso : Nat) (osz : Nat) (oit : Nat) (oho : Nat) (ohe : Nat) (otr : Nat) (stp : Nat) (laws : Nat → Int32) (z : Int32) (cnt : Nat) (fogs : Nat → Int32) (arms : Nat → Int32) (kinds : Nat → Int32) (faiths : Nat → Int32) (places : Nat → Int32) (moved : Nat → Int32) (isk : Int32) (tpd : Nat) (oat : Int32) (obg : Int32) (otk : Int32) (ovl : Int32) (rmn : Nat) (tcd : Nat) (opt : Int32) (trc : Nat → Int32) (q : Nat) (x : Int32) (hq8 : q < 8) (hkq : kinds q = 3) (hbg : tcd ≤ 30) : mt l g yX11_walksAs wsX11_walksAs rmX11_walksAs_0_3 [.ref oh, .int 0, .int x] [cob oh 11 [.ref os, .ref ok, .ref ol, .ref ord, .int isk, .ref odd, .ref otp, .int (nI tpd), .ref olt, .int oat, .int obg, .int otk, .int ovl, .ref orw, .int (nI rmn), .ref oso, .ref osz, .ref oit, .ref oho, .ref ohe, .ref otr, .int (nI tcd), .int (nI q), .int opt], cin g os 51 (mR stp laws z cnt fogs arms kinds faiths places moved), cin g otr 30 trc] (some (.int ((((x * 3) - (nI q)) + 3) + ((places q) * 6)))) [cob oh 11 [.ref os, .ref ok, .ref ol, .ref ord, .int isk, .ref odd, .ref otp, .int (nI tpd), .ref olt, .int oat, .int obg, .int otk, .int ovl, .ref orw, .int (nI rmn), .ref oso, .ref osz, .ref oit, .ref oho, .ref ohe, .ref otr, .int (nI (tr1 (tr1 (tr1 (tcd, trc) 11) 51) 10).1), .int (nI q), .int opt], cin g os 51 (mR stp laws z cnt fogs arms kinds faiths places moved), cin g otr 30 ((tr1 (tr1 (tr1 (tcd, trc) 11) 51) 10).2)] := by
  refine mt.of (cc := cX11_walksAs) (nL := 4) (ret := (some .int)) (own := RX11) (by decide +kernel) rfl rfl (show ([oh, os, otr] : List Nat) = [oh, os, otr] from rfl) (Nat.le_of_ble_eq_true rfl) (fun p e s m below meth c hf hr hlk _ hk hst hw ls hl => ?_)
  have hx := hf.1
  have hb := hf.2.1
  have hts := hf.2.2.2.2
  have hl : lv_has ls 4 [(0, .ref oh), (1, .int 0), (2, .int x)] := hl
  have hinX11 : ∀ w ∈ u_ws RX11 TX11 24, w ∈ wsX11_walksAs := fun w h => List.mem_cons_of_mem _ (List.mem_append_right _ h)
  have w_0 : Cond.fieldLink RX11 244 "LightManModel" "own" "I" ∈ wsX11_walksAs := List.mem_of_getElem? (i := 1) rfl
  refine lv_iload_n hx hb dX11_walksAs_0 rfl (lv_at hl 1 rfl) ?_
  refine lv_iconst (v := 1) hx hb dX11_walksAs_1 (by decide) ?_
  refine lv_icmp_eq (tgt := 10) hx hb dX11_walksAs_2 (by decide) (fun q => absurd q (by decide)) (fun _ => ?_)
  refine lv_iload_n hx hb dX11_walksAs_5 rfl (lv_at hl 1 rfl) ?_
  refine lv_iconst (v := 3) hx hb dX11_walksAs_6 (by decide) ?_
  refine lv_icmp_ne (tgt := 24) hx hb dX11_walksAs_7 (by decide) (fun _ => ?_) (fun q => absurd q (by decide))
  refine lv_iload_n hx hb dX11_walksAs_24 rfl (lv_at hl 1 rfl) ?_
  refine lv_iconst (v := 4) hx hb dX11_walksAs_25 (by decide) ?_
  refine lv_icmp_ne (tgt := 59) hx hb dX11_walksAs_26 (by decide) (fun _ => ?_) (fun q => absurd q (by decide))
  refine lv_aload_n hx hb dX11_walksAs_59 rfl (lv_at hl 0 rfl) ?_
  refine lv_bipush (v := 11) hx hb dX11_walksAs_60 (by decide) ?_
  refine mcV hf hk hst hw (c_X11_starts l g oh os ok ol ord odd otp olt orw oso osz oit oho ohe otr isk tpd oat obg otk ovl rmn tcd (nI q) opt trc 11 (by first | omega | ((repeat apply tr1_le); dsimp only; omega))) (cwV 1 hts gX11_walksAs_X11_starts rfl rfl rfl hdV_X11_starts ⟨Nat.le_of_ble_eq_true rfl, Nat.le_of_ble_eq_true rfl⟩) [0, 2] rfl rfl 0 rfl rfl rfl hl.1 rfl (Nat.le_of_ble_eq_true rfl) dX11_walksAs_62 ⟨Nat.zero_le _, Nat.zero_le _⟩ (W' := [cob oh 11 [.ref os, .ref ok, .ref ol, .ref ord, .int isk, .ref odd, .ref otp, .int (nI tpd), .ref olt, .int oat, .int obg, .int otk, .int ovl, .ref orw, .int (nI rmn), .ref oso, .ref osz, .ref oit, .ref oho, .ref ohe, .ref otr, .int (nI (tr1 (tcd, trc) 11).1), .int (nI q), .int opt], cin g os 51 (mR stp laws z cnt fogs arms kinds faiths places moved), cin g otr 30 ((tr1 (tcd, trc) 11).2)]) rfl (fun H locs hw => ?_)
  refine lv_aload_n hx hb dX11_walksAs_65 rfl (lv_at hl 0 rfl) ?_
  refine lv_aload_n hx hb dX11_walksAs_66 rfl (lv_at hl 0 rfl) ?_
  refine lv_aload_n hx hb dX11_walksAs_67 rfl (lv_at hl 0 rfl) ?_
  refine rg hf hk hw hinX11 0 rfl rfl 22 (by decide) w_0 rfl dX11_walksAs_68 ?_
  refine lv_iconst (v := 0) hx hb dX11_walksAs_71 (by decide) ?_
  refine mcV hf hk hst hw (c_X11_get0 l g oh os ok ol ord odd otp olt orw oso osz oit oho ohe otr stp laws z cnt fogs arms kinds faiths places moved isk tpd oat obg otk ovl rmn ((tr1 (tcd, trc) 11).1) (nI q) opt q (by omega)) (cwV 2 hts gX11_walksAs_X11_get rfl rfl rfl hdV_X11_get ⟨Nat.le_of_ble_eq_true rfl, Nat.le_of_ble_eq_true rfl⟩) [0, 1] rfl rfl 0 rfl rfl rfl hl.1 rfl (Nat.le_of_ble_eq_true rfl) dX11_walksAs_72 ⟨Nat.zero_le _, Nat.zero_le _⟩ (W' := [cob oh 11 [.ref os, .ref ok, .ref ol, .ref ord, .int isk, .ref odd, .ref otp, .int (nI tpd), .ref olt, .int oat, .int obg, .int otk, .int ovl, .ref orw, .int (nI rmn), .ref oso, .ref osz, .ref oit, .ref oho, .ref ohe, .ref otr, .int (nI ((tr1 (tcd, trc) 11).1)), .int (nI q), .int opt], cin g os 51 (mR stp laws z cnt fogs arms kinds faiths places moved), cin g otr 30 ((tr1 (tcd, trc) 11).2)]) rfl (fun H locs hw => ?_)
  refine lv_tope (y := 3) (hkq) ?_
  refine lv_iload_n hx hb dX11_walksAs_75 rfl (lv_at hl 2 rfl) ?_
  refine mcV hf hk hst hw (c_X11_looksAs_3_3 l g oh os ok ol ord odd otp olt orw oso osz oit oho ohe otr stp laws z cnt fogs arms kinds faiths places moved isk tpd oat obg otk ovl rmn ((tr1 (tcd, trc) 11).1) opt ((tr1 (tcd, trc) 11).2) q x (by omega) (hkq) (by first | omega | ((repeat apply tr1_le); dsimp only; omega))) (cwV 2 hts gX11_walksAs_X11_looksAs rfl rfl rfl hdV_X11_looksAs ⟨Nat.le_of_ble_eq_true rfl, Nat.le_of_ble_eq_true rfl⟩) [0, 1, 2] rfl rfl 0 rfl rfl rfl hl.1 rfl (Nat.le_of_ble_eq_true rfl) dX11_walksAs_76 ⟨Nat.zero_le _, Nat.zero_le _⟩ (W' := [cob oh 11 [.ref os, .ref ok, .ref ol, .ref ord, .int isk, .ref odd, .ref otp, .int (nI tpd), .ref olt, .int oat, .int obg, .int otk, .int ovl, .ref orw, .int (nI rmn), .ref oso, .ref osz, .ref oit, .ref oho, .ref ohe, .ref otr, .int (nI (tr1 (tr1 (((tr1 (tcd, trc) 11).1), ((tr1 (tcd, trc) 11).2)) 51) 10).1), .int (nI q), .int opt], cin g os 51 (mR stp laws z cnt fogs arms kinds faiths places moved), cin g otr 30 ((tr1 (tr1 (((tr1 (tcd, trc) 11).1), ((tr1 (tcd, trc) 11).2)) 51) 10).2)]) rfl (fun H locs hw => ?_)
  refine lv_aload_n hx hb dX11_walksAs_79 rfl (lv_at hl 0 rfl) ?_
  refine lv_aload_n hx hb dX11_walksAs_80 rfl (lv_at hl 0 rfl) ?_
  refine rg hf hk hw hinX11 0 rfl rfl 22 (by decide) w_0 rfl dX11_walksAs_81 ?_
  refine lv_iconst (v := 2) hx hb dX11_walksAs_84 (by decide) ?_
  refine mcV hf hk hst hw (c_X11_get2 l g oh os ok ol ord odd otp olt orw oso osz oit oho ohe otr stp laws z cnt fogs arms kinds faiths places moved isk tpd oat obg otk ovl rmn ((tr1 (tr1 (((tr1 (tcd, trc) 11).1), ((tr1 (tcd, trc) 11).2)) 51) 10).1) (nI q) opt q (by omega)) (cwV 2 hts gX11_walksAs_X11_get rfl rfl rfl hdV_X11_get ⟨Nat.le_of_ble_eq_true rfl, Nat.le_of_ble_eq_true rfl⟩) [0, 1] rfl rfl 0 rfl rfl rfl hl.1 rfl (Nat.le_of_ble_eq_true rfl) dX11_walksAs_85 ⟨Nat.zero_le _, Nat.zero_le _⟩ (W' := [cob oh 11 [.ref os, .ref ok, .ref ol, .ref ord, .int isk, .ref odd, .ref otp, .int (nI tpd), .ref olt, .int oat, .int obg, .int otk, .int ovl, .ref orw, .int (nI rmn), .ref oso, .ref osz, .ref oit, .ref oho, .ref ohe, .ref otr, .int (nI ((tr1 (tr1 (((tr1 (tcd, trc) 11).1), ((tr1 (tcd, trc) 11).2)) 51) 10).1)), .int (nI q), .int opt], cin g os 51 (mR stp laws z cnt fogs arms kinds faiths places moved), cin g otr 30 ((tr1 (tr1 (((tr1 (tcd, trc) 11).1), ((tr1 (tcd, trc) 11).2)) 51) 10).2)]) rfl (fun H locs hw => ?_)
  refine lv_bipush (v := 6) hx hb dX11_walksAs_88 (by decide) ?_
  refine lv_imul hx hb dX11_walksAs_90 ?_
  refine lv_iadd hx hb dX11_walksAs_91 ?_
  exact re_i hf hr hlk hw (rfl) (by simp only [pr_eta]) dX11_walksAs_92
abbrev rmX11_walksAs_3_3 : Room := { frames := 4, cells := 0, slots := 0, locals := 88 }
set_option maxHeartbeats 4000000 in
set_option maxRecDepth 100000 in
theorem c_X11_walksAs_3_3 (l : Launch) (g : GG) (oh : Nat) (os : Nat) (ok : Nat) (ol : Nat) (ord : Nat) (odd : Nat) (otp : Nat) (olt : Nat) (orw : Nat) (oso : Nat) (osz : Nat) (oit : Nat) (oho : Nat) (ohe : Nat) (otr : Nat) (stp : Nat) (laws : Nat → Int32) (z : Int32) (cnt : Nat) (fogs : Nat → Int32) (arms : Nat → Int32) (kinds : Nat → Int32) (faiths : Nat → Int32) (places : Nat → Int32) (moved : Nat → Int32) (isk : Int32) (tpd : Nat) (oat : Int32) (obg : Int32) (otk : Int32) (ovl : Int32) (rmn : Nat) (tcd : Nat) (opt : Int32) (trc : Nat → Int32) (q : Nat) (x : Int32) (hq8 : q < 8) (hkq : kinds q = 3) (hbg : tcd ≤ 30) : mt l g yX11_walksAs wsX11_walksAs rmX11_walksAs_3_3 [.ref oh, .int 3, .int x] [cob oh 11 [.ref os, .ref ok, .ref ol, .ref ord, .int isk, .ref odd, .ref otp, .int (nI tpd), .ref olt, .int oat, .int obg, .int otk, .int ovl, .ref orw, .int (nI rmn), .ref oso, .ref osz, .ref oit, .ref oho, .ref ohe, .ref otr, .int (nI tcd), .int (nI q), .int opt], cin g os 51 (mR stp laws z cnt fogs arms kinds faiths places moved), cin g otr 30 trc] (some (.int (-((((x * 3) - (nI q)) + 3) + ((places q) * 6))))) [cob oh 11 [.ref os, .ref ok, .ref ol, .ref ord, .int isk, .ref odd, .ref otp, .int (nI tpd), .ref olt, .int oat, .int obg, .int otk, .int ovl, .ref orw, .int (nI rmn), .ref oso, .ref osz, .ref oit, .ref oho, .ref ohe, .ref otr, .int (nI (tr1 (tr1 (tr1 (tr1 (tcd, trc) 20) 11) 51) 10).1), .int (nI q), .int opt], cin g os 51 (mR stp laws z cnt fogs arms kinds faiths places moved), cin g otr 30 ((tr1 (tr1 (tr1 (tr1 (tcd, trc) 20) 11) 51) 10).2)] := by
  refine mt.of (cc := cX11_walksAs) (nL := 4) (ret := (some .int)) (own := RX11) (by decide +kernel) rfl rfl (show ([oh, os, otr] : List Nat) = [oh, os, otr] from rfl) (Nat.le_of_ble_eq_true rfl) (fun p e s m below meth c hf hr hlk _ hk hst hw ls hl => ?_)
  have hx := hf.1
  have hb := hf.2.1
  have hts := hf.2.2.2.2
  have hl : lv_has ls 4 [(0, .ref oh), (1, .int 3), (2, .int x)] := hl
  refine lv_iload_n hx hb dX11_walksAs_0 rfl (lv_at hl 1 rfl) ?_
  refine lv_iconst (v := 1) hx hb dX11_walksAs_1 (by decide) ?_
  refine lv_icmp_eq (tgt := 10) hx hb dX11_walksAs_2 (by decide) (fun q => absurd q (by decide)) (fun _ => ?_)
  refine lv_iload_n hx hb dX11_walksAs_5 rfl (lv_at hl 1 rfl) ?_
  refine lv_iconst (v := 3) hx hb dX11_walksAs_6 (by decide) ?_
  refine lv_icmp_ne (tgt := 24) hx hb dX11_walksAs_7 (by decide) (fun q => absurd (by decide) q) (fun _ => ?_)
  refine lv_aload_n hx hb dX11_walksAs_10 rfl (lv_at hl 0 rfl) ?_
  refine lv_bipush (v := 20) hx hb dX11_walksAs_11 (by decide) ?_
  refine mcV hf hk hst hw (c_X11_starts l g oh os ok ol ord odd otp olt orw oso osz oit oho ohe otr isk tpd oat obg otk ovl rmn tcd (nI q) opt trc 20 (by first | omega | ((repeat apply tr1_le); dsimp only; omega))) (cwV 1 hts gX11_walksAs_X11_starts rfl rfl rfl hdV_X11_starts ⟨Nat.le_of_ble_eq_true rfl, Nat.le_of_ble_eq_true rfl⟩) [0, 2] rfl rfl 0 rfl rfl rfl hl.1 rfl (Nat.le_of_ble_eq_true rfl) dX11_walksAs_13 ⟨Nat.zero_le _, Nat.zero_le _⟩ (W' := [cob oh 11 [.ref os, .ref ok, .ref ol, .ref ord, .int isk, .ref odd, .ref otp, .int (nI tpd), .ref olt, .int oat, .int obg, .int otk, .int ovl, .ref orw, .int (nI rmn), .ref oso, .ref osz, .ref oit, .ref oho, .ref ohe, .ref otr, .int (nI (tr1 (tcd, trc) 20).1), .int (nI q), .int opt], cin g os 51 (mR stp laws z cnt fogs arms kinds faiths places moved), cin g otr 30 ((tr1 (tcd, trc) 20).2)]) rfl (fun H locs hw => ?_)
  refine lv_aload_n hx hb dX11_walksAs_16 rfl (lv_at hl 0 rfl) ?_
  refine lv_iconst (v := 0) hx hb dX11_walksAs_17 (by decide) ?_
  refine lv_iload_n hx hb dX11_walksAs_18 rfl (lv_at hl 2 rfl) ?_
  refine mcV hf hk hst hw (c_X11_walksAs_0_3 l g oh os ok ol ord odd otp olt orw oso osz oit oho ohe otr stp laws z cnt fogs arms kinds faiths places moved isk tpd oat obg otk ovl rmn ((tr1 (tcd, trc) 20).1) opt ((tr1 (tcd, trc) 20).2) q x (by omega) (hkq) (by first | omega | ((repeat apply tr1_le); dsimp only; omega))) (cwV 2 hts gX11_walksAs_X11_walksAs rfl rfl rfl hdV_X11_walksAs ⟨Nat.le_of_ble_eq_true rfl, Nat.le_of_ble_eq_true rfl⟩) [0, 1, 2] rfl rfl 0 rfl rfl rfl hl.1 rfl (Nat.le_of_ble_eq_true rfl) dX11_walksAs_19 ⟨Nat.zero_le _, Nat.zero_le _⟩ (W' := [cob oh 11 [.ref os, .ref ok, .ref ol, .ref ord, .int isk, .ref odd, .ref otp, .int (nI tpd), .ref olt, .int oat, .int obg, .int otk, .int ovl, .ref orw, .int (nI rmn), .ref oso, .ref osz, .ref oit, .ref oho, .ref ohe, .ref otr, .int (nI (tr1 (tr1 (tr1 (((tr1 (tcd, trc) 20).1), ((tr1 (tcd, trc) 20).2)) 11) 51) 10).1), .int (nI q), .int opt], cin g os 51 (mR stp laws z cnt fogs arms kinds faiths places moved), cin g otr 30 ((tr1 (tr1 (tr1 (((tr1 (tcd, trc) 20).1), ((tr1 (tcd, trc) 20).2)) 11) 51) 10).2)]) rfl (fun H locs hw => ?_)
  refine lv_ineg hx hb dX11_walksAs_22 ?_
  exact re_i hf hr hlk hw (rfl) (by simp only [pr_eta]) dX11_walksAs_23
abbrev rmX11_walksAs_2_4 : Room := { frames := 4, cells := 0, slots := 0, locals := 87 }
set_option maxHeartbeats 4000000 in
set_option maxRecDepth 100000 in
theorem c_X11_walksAs_2_4 (l : Launch) (g : GG) (oh : Nat) (os : Nat) (ok : Nat) (ol : Nat) (ord : Nat) (odd : Nat) (otp : Nat) (olt : Nat) (orw : Nat) (oso : Nat) (osz : Nat) (oit : Nat) (oho : Nat) (ohe : Nat) (otr : Nat) (stp : Nat) (laws : Nat → Int32) (z : Int32) (cnt : Nat) (fogs : Nat → Int32) (arms : Nat → Int32) (kinds : Nat → Int32) (faiths : Nat → Int32) (places : Nat → Int32) (moved : Nat → Int32) (isk : Int32) (tpd : Nat) (oat : Int32) (obg : Int32) (otk : Int32) (ovl : Int32) (rmn : Nat) (tcd : Nat) (opt : Int32) (trc : Nat → Int32) (q : Nat) (x : Int32) (hq8 : q < 8) (hkq : kinds q = 4) (hbg : tcd ≤ 30) : mt l g yX11_walksAs wsX11_walksAs rmX11_walksAs_2_4 [.ref oh, .int 2, .int x] [cob oh 11 [.ref os, .ref ok, .ref ol, .ref ord, .int isk, .ref odd, .ref otp, .int (nI tpd), .ref olt, .int oat, .int obg, .int otk, .int ovl, .ref orw, .int (nI rmn), .ref oso, .ref osz, .ref oit, .ref oho, .ref ohe, .ref otr, .int (nI tcd), .int (nI q), .int opt], cin g os 51 (mR stp laws z cnt fogs arms kinds faiths places moved), cin g otr 30 trc] (some (.int (((((x * 3) - (nI q)) * 2) ^^^ 9) + ((places q) * 6)))) [cob oh 11 [.ref os, .ref ok, .ref ol, .ref ord, .int isk, .ref odd, .ref otp, .int (nI tpd), .ref olt, .int oat, .int obg, .int otk, .int ovl, .ref orw, .int (nI rmn), .ref oso, .ref osz, .ref oit, .ref oho, .ref ohe, .ref otr, .int (nI (tr1 (tr1 (tr1 (tr1 (tcd, trc) 11) 40) 30) 10).1), .int (nI q), .int opt], cin g os 51 (mR stp laws z cnt fogs arms kinds faiths places moved), cin g otr 30 ((tr1 (tr1 (tr1 (tr1 (tcd, trc) 11) 40) 30) 10).2)] := by
  refine mt.of (cc := cX11_walksAs) (nL := 4) (ret := (some .int)) (own := RX11) (by decide +kernel) rfl rfl (show ([oh, os, otr] : List Nat) = [oh, os, otr] from rfl) (Nat.le_of_ble_eq_true rfl) (fun p e s m below meth c hf hr hlk _ hk hst hw ls hl => ?_)
  have hx := hf.1
  have hb := hf.2.1
  have hts := hf.2.2.2.2
  have hl : lv_has ls 4 [(0, .ref oh), (1, .int 2), (2, .int x)] := hl
  have hinX11 : ∀ w ∈ u_ws RX11 TX11 24, w ∈ wsX11_walksAs := fun w h => List.mem_cons_of_mem _ (List.mem_append_right _ h)
  have w_0 : Cond.fieldLink RX11 244 "LightManModel" "own" "I" ∈ wsX11_walksAs := List.mem_of_getElem? (i := 1) rfl
  refine lv_iload_n hx hb dX11_walksAs_0 rfl (lv_at hl 1 rfl) ?_
  refine lv_iconst (v := 1) hx hb dX11_walksAs_1 (by decide) ?_
  refine lv_icmp_eq (tgt := 10) hx hb dX11_walksAs_2 (by decide) (fun q => absurd q (by decide)) (fun _ => ?_)
  refine lv_iload_n hx hb dX11_walksAs_5 rfl (lv_at hl 1 rfl) ?_
  refine lv_iconst (v := 3) hx hb dX11_walksAs_6 (by decide) ?_
  refine lv_icmp_ne (tgt := 24) hx hb dX11_walksAs_7 (by decide) (fun _ => ?_) (fun q => absurd q (by decide))
  refine lv_iload_n hx hb dX11_walksAs_24 rfl (lv_at hl 1 rfl) ?_
  refine lv_iconst (v := 4) hx hb dX11_walksAs_25 (by decide) ?_
  refine lv_icmp_ne (tgt := 59) hx hb dX11_walksAs_26 (by decide) (fun _ => ?_) (fun q => absurd q (by decide))
  refine lv_aload_n hx hb dX11_walksAs_59 rfl (lv_at hl 0 rfl) ?_
  refine lv_bipush (v := 11) hx hb dX11_walksAs_60 (by decide) ?_
  refine mcV hf hk hst hw (c_X11_starts l g oh os ok ol ord odd otp olt orw oso osz oit oho ohe otr isk tpd oat obg otk ovl rmn tcd (nI q) opt trc 11 (by first | omega | ((repeat apply tr1_le); dsimp only; omega))) (cwV 1 hts gX11_walksAs_X11_starts rfl rfl rfl hdV_X11_starts ⟨Nat.le_of_ble_eq_true rfl, Nat.le_of_ble_eq_true rfl⟩) [0, 2] rfl rfl 0 rfl rfl rfl hl.1 rfl (Nat.le_of_ble_eq_true rfl) dX11_walksAs_62 ⟨Nat.zero_le _, Nat.zero_le _⟩ (W' := [cob oh 11 [.ref os, .ref ok, .ref ol, .ref ord, .int isk, .ref odd, .ref otp, .int (nI tpd), .ref olt, .int oat, .int obg, .int otk, .int ovl, .ref orw, .int (nI rmn), .ref oso, .ref osz, .ref oit, .ref oho, .ref ohe, .ref otr, .int (nI (tr1 (tcd, trc) 11).1), .int (nI q), .int opt], cin g os 51 (mR stp laws z cnt fogs arms kinds faiths places moved), cin g otr 30 ((tr1 (tcd, trc) 11).2)]) rfl (fun H locs hw => ?_)
  refine lv_aload_n hx hb dX11_walksAs_65 rfl (lv_at hl 0 rfl) ?_
  refine lv_aload_n hx hb dX11_walksAs_66 rfl (lv_at hl 0 rfl) ?_
  refine lv_aload_n hx hb dX11_walksAs_67 rfl (lv_at hl 0 rfl) ?_
  refine rg hf hk hw hinX11 0 rfl rfl 22 (by decide) w_0 rfl dX11_walksAs_68 ?_
  refine lv_iconst (v := 0) hx hb dX11_walksAs_71 (by decide) ?_
  refine mcV hf hk hst hw (c_X11_get0 l g oh os ok ol ord odd otp olt orw oso osz oit oho ohe otr stp laws z cnt fogs arms kinds faiths places moved isk tpd oat obg otk ovl rmn ((tr1 (tcd, trc) 11).1) (nI q) opt q (by omega)) (cwV 2 hts gX11_walksAs_X11_get rfl rfl rfl hdV_X11_get ⟨Nat.le_of_ble_eq_true rfl, Nat.le_of_ble_eq_true rfl⟩) [0, 1] rfl rfl 0 rfl rfl rfl hl.1 rfl (Nat.le_of_ble_eq_true rfl) dX11_walksAs_72 ⟨Nat.zero_le _, Nat.zero_le _⟩ (W' := [cob oh 11 [.ref os, .ref ok, .ref ol, .ref ord, .int isk, .ref odd, .ref otp, .int (nI tpd), .ref olt, .int oat, .int obg, .int otk, .int ovl, .ref orw, .int (nI rmn), .ref oso, .ref osz, .ref oit, .ref oho, .ref ohe, .ref otr, .int (nI ((tr1 (tcd, trc) 11).1)), .int (nI q), .int opt], cin g os 51 (mR stp laws z cnt fogs arms kinds faiths places moved), cin g otr 30 ((tr1 (tcd, trc) 11).2)]) rfl (fun H locs hw => ?_)
  refine lv_tope (y := 4) (hkq) ?_
  refine lv_iload_n hx hb dX11_walksAs_75 rfl (lv_at hl 2 rfl) ?_
  refine mcV hf hk hst hw (c_X11_looksAs_4_4 l g oh os ok ol ord odd otp olt orw oso osz oit oho ohe otr stp laws z cnt fogs arms kinds faiths places moved isk tpd oat obg otk ovl rmn ((tr1 (tcd, trc) 11).1) opt ((tr1 (tcd, trc) 11).2) q x (by omega) (hkq) (by first | omega | ((repeat apply tr1_le); dsimp only; omega))) (cwV 2 hts gX11_walksAs_X11_looksAs rfl rfl rfl hdV_X11_looksAs ⟨Nat.le_of_ble_eq_true rfl, Nat.le_of_ble_eq_true rfl⟩) [0, 1, 2] rfl rfl 0 rfl rfl rfl hl.1 rfl (Nat.le_of_ble_eq_true rfl) dX11_walksAs_76 ⟨Nat.zero_le _, Nat.zero_le _⟩ (W' := [cob oh 11 [.ref os, .ref ok, .ref ol, .ref ord, .int isk, .ref odd, .ref otp, .int (nI tpd), .ref olt, .int oat, .int obg, .int otk, .int ovl, .ref orw, .int (nI rmn), .ref oso, .ref osz, .ref oit, .ref oho, .ref ohe, .ref otr, .int (nI (tr1 (tr1 (tr1 (((tr1 (tcd, trc) 11).1), ((tr1 (tcd, trc) 11).2)) 40) 30) 10).1), .int (nI q), .int opt], cin g os 51 (mR stp laws z cnt fogs arms kinds faiths places moved), cin g otr 30 ((tr1 (tr1 (tr1 (((tr1 (tcd, trc) 11).1), ((tr1 (tcd, trc) 11).2)) 40) 30) 10).2)]) rfl (fun H locs hw => ?_)
  refine lv_aload_n hx hb dX11_walksAs_79 rfl (lv_at hl 0 rfl) ?_
  refine lv_aload_n hx hb dX11_walksAs_80 rfl (lv_at hl 0 rfl) ?_
  refine rg hf hk hw hinX11 0 rfl rfl 22 (by decide) w_0 rfl dX11_walksAs_81 ?_
  refine lv_iconst (v := 2) hx hb dX11_walksAs_84 (by decide) ?_
  refine mcV hf hk hst hw (c_X11_get2 l g oh os ok ol ord odd otp olt orw oso osz oit oho ohe otr stp laws z cnt fogs arms kinds faiths places moved isk tpd oat obg otk ovl rmn ((tr1 (tr1 (tr1 (((tr1 (tcd, trc) 11).1), ((tr1 (tcd, trc) 11).2)) 40) 30) 10).1) (nI q) opt q (by omega)) (cwV 2 hts gX11_walksAs_X11_get rfl rfl rfl hdV_X11_get ⟨Nat.le_of_ble_eq_true rfl, Nat.le_of_ble_eq_true rfl⟩) [0, 1] rfl rfl 0 rfl rfl rfl hl.1 rfl (Nat.le_of_ble_eq_true rfl) dX11_walksAs_85 ⟨Nat.zero_le _, Nat.zero_le _⟩ (W' := [cob oh 11 [.ref os, .ref ok, .ref ol, .ref ord, .int isk, .ref odd, .ref otp, .int (nI tpd), .ref olt, .int oat, .int obg, .int otk, .int ovl, .ref orw, .int (nI rmn), .ref oso, .ref osz, .ref oit, .ref oho, .ref ohe, .ref otr, .int (nI ((tr1 (tr1 (tr1 (((tr1 (tcd, trc) 11).1), ((tr1 (tcd, trc) 11).2)) 40) 30) 10).1)), .int (nI q), .int opt], cin g os 51 (mR stp laws z cnt fogs arms kinds faiths places moved), cin g otr 30 ((tr1 (tr1 (tr1 (((tr1 (tcd, trc) 11).1), ((tr1 (tcd, trc) 11).2)) 40) 30) 10).2)]) rfl (fun H locs hw => ?_)
  refine lv_bipush (v := 6) hx hb dX11_walksAs_88 (by decide) ?_
  refine lv_imul hx hb dX11_walksAs_90 ?_
  refine lv_iadd hx hb dX11_walksAs_91 ?_
  exact re_i hf hr hlk hw (rfl) (by simp only [pr_eta]) dX11_walksAs_92
abbrev rmX11_walksAs_4_4 : Room := { frames := 5, cells := 0, slots := 0, locals := 110 }
set_option maxHeartbeats 4000000 in
set_option maxRecDepth 100000 in
theorem c_X11_walksAs_4_4 (l : Launch) (g : GG) (oh : Nat) (os : Nat) (ok : Nat) (ol : Nat) (ord : Nat) (odd : Nat) (otp : Nat) (olt : Nat) (orw : Nat) (oso : Nat) (osz : Nat) (oit : Nat) (oho : Nat) (ohe : Nat) (otr : Nat) (stp : Nat) (laws : Nat → Int32) (z : Int32) (cnt : Nat) (fogs : Nat → Int32) (arms : Nat → Int32) (kinds : Nat → Int32) (faiths : Nat → Int32) (places : Nat → Int32) (moved : Nat → Int32) (isk : Int32) (tpd : Nat) (oat : Int32) (obg : Int32) (otk : Int32) (ovl : Int32) (rmn : Nat) (tcd : Nat) (opt : Int32) (trc : Nat → Int32) (q : Nat) (x : Int32) (hq8 : q < 8) (hkq : kinds q = 4) (hbg : tcd ≤ 30) : mt l g yX11_walksAs wsX11_walksAs rmX11_walksAs_4_4 [.ref oh, .int 4, .int x] [cob oh 11 [.ref os, .ref ok, .ref ol, .ref ord, .int isk, .ref odd, .ref otp, .int (nI tpd), .ref olt, .int oat, .int obg, .int otk, .int ovl, .ref orw, .int (nI rmn), .ref oso, .ref osz, .ref oit, .ref oho, .ref ohe, .ref otr, .int (nI tcd), .int (nI q), .int opt], cin g os 51 (mR stp laws z cnt fogs arms kinds faiths places moved), cin g otr 30 trc] (some (.int ((((((x * 3) - (nI q)) * 2) ^^^ 9) + ((places q) * 6)) - ((((((places q) * 3) - (nI q)) * 2) ^^^ 9))))) [cob oh 11 [.ref os, .ref ok, .ref ol, .ref ord, .int isk, .ref odd, .ref otp, .int (nI tpd), .ref olt, .int oat, .int obg, .int otk, .int ovl, .ref orw, .int (nI rmn), .ref oso, .ref osz, .ref oit, .ref oho, .ref ohe, .ref otr, .int (nI (tr1 (tr1 (tr1 (tr1 (tr1 (tr1 (tr1 (tr1 (tcd, trc) 41) 11) 40) 30) 10) 40) 30) 10).1), .int (nI q), .int opt], cin g os 51 (mR stp laws z cnt fogs arms kinds faiths places moved), cin g otr 30 ((tr1 (tr1 (tr1 (tr1 (tr1 (tr1 (tr1 (tr1 (tcd, trc) 41) 11) 40) 30) 10) 40) 30) 10).2)] := by
  refine mt.of (cc := cX11_walksAs) (nL := 4) (ret := (some .int)) (own := RX11) (by decide +kernel) rfl rfl (show ([oh, os, otr] : List Nat) = [oh, os, otr] from rfl) (Nat.le_of_ble_eq_true rfl) (fun p e s m below meth c hf hr hlk _ hk hst hw ls hl => ?_)
  have hx := hf.1
  have hb := hf.2.1
  have hts := hf.2.2.2.2
  have hl : lv_has ls 4 [(0, .ref oh), (1, .int 4), (2, .int x)] := hl
  have hinX11 : ∀ w ∈ u_ws RX11 TX11 24, w ∈ wsX11_walksAs := fun w h => List.mem_cons_of_mem _ (List.mem_append_right _ h)
  have w_0 : Cond.fieldLink RX11 244 "LightManModel" "own" "I" ∈ wsX11_walksAs := List.mem_of_getElem? (i := 1) rfl
  refine lv_iload_n hx hb dX11_walksAs_0 rfl (lv_at hl 1 rfl) ?_
  refine lv_iconst (v := 1) hx hb dX11_walksAs_1 (by decide) ?_
  refine lv_icmp_eq (tgt := 10) hx hb dX11_walksAs_2 (by decide) (fun q => absurd q (by decide)) (fun _ => ?_)
  refine lv_iload_n hx hb dX11_walksAs_5 rfl (lv_at hl 1 rfl) ?_
  refine lv_iconst (v := 3) hx hb dX11_walksAs_6 (by decide) ?_
  refine lv_icmp_ne (tgt := 24) hx hb dX11_walksAs_7 (by decide) (fun _ => ?_) (fun q => absurd q (by decide))
  refine lv_iload_n hx hb dX11_walksAs_24 rfl (lv_at hl 1 rfl) ?_
  refine lv_iconst (v := 4) hx hb dX11_walksAs_25 (by decide) ?_
  refine lv_icmp_ne (tgt := 59) hx hb dX11_walksAs_26 (by decide) (fun q => absurd (by decide) q) (fun _ => ?_)
  refine lv_aload_n hx hb dX11_walksAs_29 rfl (lv_at hl 0 rfl) ?_
  refine lv_bipush (v := 41) hx hb dX11_walksAs_30 (by decide) ?_
  refine mcV hf hk hst hw (c_X11_starts l g oh os ok ol ord odd otp olt orw oso osz oit oho ohe otr isk tpd oat obg otk ovl rmn tcd (nI q) opt trc 41 (by first | omega | ((repeat apply tr1_le); dsimp only; omega))) (cwV 1 hts gX11_walksAs_X11_starts rfl rfl rfl hdV_X11_starts ⟨Nat.le_of_ble_eq_true rfl, Nat.le_of_ble_eq_true rfl⟩) [0, 2] rfl rfl 0 rfl rfl rfl hl.1 rfl (Nat.le_of_ble_eq_true rfl) dX11_walksAs_32 ⟨Nat.zero_le _, Nat.zero_le _⟩ (W' := [cob oh 11 [.ref os, .ref ok, .ref ol, .ref ord, .int isk, .ref odd, .ref otp, .int (nI tpd), .ref olt, .int oat, .int obg, .int otk, .int ovl, .ref orw, .int (nI rmn), .ref oso, .ref osz, .ref oit, .ref oho, .ref ohe, .ref otr, .int (nI (tr1 (tcd, trc) 41).1), .int (nI q), .int opt], cin g os 51 (mR stp laws z cnt fogs arms kinds faiths places moved), cin g otr 30 ((tr1 (tcd, trc) 41).2)]) rfl (fun H locs hw => ?_)
  refine lv_aload_n hx hb dX11_walksAs_35 rfl (lv_at hl 0 rfl) ?_
  refine lv_iconst (v := 2) hx hb dX11_walksAs_36 (by decide) ?_
  refine lv_iload_n hx hb dX11_walksAs_37 rfl (lv_at hl 2 rfl) ?_
  refine mcV hf hk hst hw (c_X11_walksAs_2_4 l g oh os ok ol ord odd otp olt orw oso osz oit oho ohe otr stp laws z cnt fogs arms kinds faiths places moved isk tpd oat obg otk ovl rmn ((tr1 (tcd, trc) 41).1) opt ((tr1 (tcd, trc) 41).2) q x (by omega) (hkq) (by first | omega | ((repeat apply tr1_le); dsimp only; omega))) (cwV 2 hts gX11_walksAs_X11_walksAs rfl rfl rfl hdV_X11_walksAs ⟨Nat.le_of_ble_eq_true rfl, Nat.le_of_ble_eq_true rfl⟩) [0, 1, 2] rfl rfl 0 rfl rfl rfl hl.1 rfl (Nat.le_of_ble_eq_true rfl) dX11_walksAs_38 ⟨Nat.zero_le _, Nat.zero_le _⟩ (W' := [cob oh 11 [.ref os, .ref ok, .ref ol, .ref ord, .int isk, .ref odd, .ref otp, .int (nI tpd), .ref olt, .int oat, .int obg, .int otk, .int ovl, .ref orw, .int (nI rmn), .ref oso, .ref osz, .ref oit, .ref oho, .ref ohe, .ref otr, .int (nI (tr1 (tr1 (tr1 (tr1 (((tr1 (tcd, trc) 41).1), ((tr1 (tcd, trc) 41).2)) 11) 40) 30) 10).1), .int (nI q), .int opt], cin g os 51 (mR stp laws z cnt fogs arms kinds faiths places moved), cin g otr 30 ((tr1 (tr1 (tr1 (tr1 (((tr1 (tcd, trc) 41).1), ((tr1 (tcd, trc) 41).2)) 11) 40) 30) 10).2)]) rfl (fun H locs hw => ?_)
  refine lv_istore_n (lv' := [(3, .int (((((x * 3) - (nI q)) * 2) ^^^ 9) + ((places q) * 6))), (0, .ref oh), (1, .int 4), (2, .int x)]) hx hb dX11_walksAs_41 rfl hl (by decide) rfl (fun ls hl => ?_)
  refine lv_iload_n hx hb dX11_walksAs_42 rfl (lv_at hl 0 rfl) ?_
  refine lv_aload_n hx hb dX11_walksAs_43 rfl (lv_at hl 1 rfl) ?_
  refine lv_iconst (v := 4) hx hb dX11_walksAs_44 (by decide) ?_
  refine lv_aload_n hx hb dX11_walksAs_45 rfl (lv_at hl 1 rfl) ?_
  refine lv_aload_n hx hb dX11_walksAs_46 rfl (lv_at hl 1 rfl) ?_
  refine rg hf hk hw hinX11 0 rfl rfl 22 (by decide) w_0 rfl dX11_walksAs_47 ?_
  refine lv_iconst (v := 2) hx hb dX11_walksAs_50 (by decide) ?_
  refine mcV hf hk hst hw (c_X11_get2 l g oh os ok ol ord odd otp olt orw oso osz oit oho ohe otr stp laws z cnt fogs arms kinds faiths places moved isk tpd oat obg otk ovl rmn ((tr1 (tr1 (tr1 (tr1 (((tr1 (tcd, trc) 41).1), ((tr1 (tcd, trc) 41).2)) 11) 40) 30) 10).1) (nI q) opt q (by omega)) (cwV 2 hts gX11_walksAs_X11_get rfl rfl rfl hdV_X11_get ⟨Nat.le_of_ble_eq_true rfl, Nat.le_of_ble_eq_true rfl⟩) [0, 1] rfl rfl 0 rfl rfl rfl hl.1 rfl (Nat.le_of_ble_eq_true rfl) dX11_walksAs_51 ⟨Nat.zero_le _, Nat.zero_le _⟩ (W' := [cob oh 11 [.ref os, .ref ok, .ref ol, .ref ord, .int isk, .ref odd, .ref otp, .int (nI tpd), .ref olt, .int oat, .int obg, .int otk, .int ovl, .ref orw, .int (nI rmn), .ref oso, .ref osz, .ref oit, .ref oho, .ref ohe, .ref otr, .int (nI ((tr1 (tr1 (tr1 (tr1 (((tr1 (tcd, trc) 41).1), ((tr1 (tcd, trc) 41).2)) 11) 40) 30) 10).1)), .int (nI q), .int opt], cin g os 51 (mR stp laws z cnt fogs arms kinds faiths places moved), cin g otr 30 ((tr1 (tr1 (tr1 (tr1 (((tr1 (tcd, trc) 41).1), ((tr1 (tcd, trc) 41).2)) 11) 40) 30) 10).2)]) rfl (fun H locs hw => ?_)
  refine mcV hf hk hst hw (c_X11_looksAs_4_4 l g oh os ok ol ord odd otp olt orw oso osz oit oho ohe otr stp laws z cnt fogs arms kinds faiths places moved isk tpd oat obg otk ovl rmn ((tr1 (tr1 (tr1 (tr1 (((tr1 (tcd, trc) 41).1), ((tr1 (tcd, trc) 41).2)) 11) 40) 30) 10).1) opt ((tr1 (tr1 (tr1 (tr1 (((tr1 (tcd, trc) 41).1), ((tr1 (tcd, trc) 41).2)) 11) 40) 30) 10).2) q (places q) (by omega) (hkq) (by first | omega | ((repeat apply tr1_le); dsimp only; omega))) (cwV 2 hts gX11_walksAs_X11_looksAs rfl rfl rfl hdV_X11_looksAs ⟨Nat.le_of_ble_eq_true rfl, Nat.le_of_ble_eq_true rfl⟩) [0, 1, 2] rfl rfl 0 rfl rfl rfl hl.1 rfl (Nat.le_of_ble_eq_true rfl) dX11_walksAs_54 ⟨Nat.zero_le _, Nat.zero_le _⟩ (W' := [cob oh 11 [.ref os, .ref ok, .ref ol, .ref ord, .int isk, .ref odd, .ref otp, .int (nI tpd), .ref olt, .int oat, .int obg, .int otk, .int ovl, .ref orw, .int (nI rmn), .ref oso, .ref osz, .ref oit, .ref oho, .ref ohe, .ref otr, .int (nI (tr1 (tr1 (tr1 (((tr1 (tr1 (tr1 (tr1 (((tr1 (tcd, trc) 41).1), ((tr1 (tcd, trc) 41).2)) 11) 40) 30) 10).1), ((tr1 (tr1 (tr1 (tr1 (((tr1 (tcd, trc) 41).1), ((tr1 (tcd, trc) 41).2)) 11) 40) 30) 10).2)) 40) 30) 10).1), .int (nI q), .int opt], cin g os 51 (mR stp laws z cnt fogs arms kinds faiths places moved), cin g otr 30 ((tr1 (tr1 (tr1 (((tr1 (tr1 (tr1 (tr1 (((tr1 (tcd, trc) 41).1), ((tr1 (tcd, trc) 41).2)) 11) 40) 30) 10).1), ((tr1 (tr1 (tr1 (tr1 (((tr1 (tcd, trc) 41).1), ((tr1 (tcd, trc) 41).2)) 11) 40) 30) 10).2)) 40) 30) 10).2)]) rfl (fun H locs hw => ?_)
  refine lv_isub hx hb dX11_walksAs_57 ?_
  exact re_i hf hr hlk hw (by rfl) (by simp only [pr_eta]) dX11_walksAs_58
abbrev rmX11_walksAs_5_5 : Room := { frames := 2, cells := 0, slots := 0, locals := 43 }
set_option maxHeartbeats 4000000 in
set_option maxRecDepth 100000 in
theorem c_X11_walksAs_5_5 (l : Launch) (g : GG) (oh : Nat) (os : Nat) (ok : Nat) (ol : Nat) (ord : Nat) (odd : Nat) (otp : Nat) (olt : Nat) (orw : Nat) (oso : Nat) (osz : Nat) (oit : Nat) (oho : Nat) (ohe : Nat) (otr : Nat) (stp : Nat) (laws : Nat → Int32) (z : Int32) (cnt : Nat) (fogs : Nat → Int32) (arms : Nat → Int32) (kinds : Nat → Int32) (faiths : Nat → Int32) (places : Nat → Int32) (moved : Nat → Int32) (isk : Int32) (tpd : Nat) (oat : Int32) (obg : Int32) (otk : Int32) (ovl : Int32) (rmn : Nat) (tcd : Nat) (opt : Int32) (trc : Nat → Int32) (q : Nat) (x : Int32) (hq8 : q < 8) (hkq : kinds q = 5) (hbg : tcd ≤ 30) : mt l g yX11_walksAs wsX11_walksAs rmX11_walksAs_5_5 [.ref oh, .int 5, .int x] [cob oh 11 [.ref os, .ref ok, .ref ol, .ref ord, .int isk, .ref odd, .ref otp, .int (nI tpd), .ref olt, .int oat, .int obg, .int otk, .int ovl, .ref orw, .int (nI rmn), .ref oso, .ref osz, .ref oit, .ref oho, .ref ohe, .ref otr, .int (nI tcd), .int (nI q), .int opt], cin g os 51 (mR stp laws z cnt fogs arms kinds faiths places moved), cin g otr 30 trc] (some (.int (((x * 3) - (nI q)) + ((places q) * 6)))) [cob oh 11 [.ref os, .ref ok, .ref ol, .ref ord, .int isk, .ref odd, .ref otp, .int (nI tpd), .ref olt, .int oat, .int obg, .int otk, .int ovl, .ref orw, .int (nI rmn), .ref oso, .ref osz, .ref oit, .ref oho, .ref ohe, .ref otr, .int (nI (tr1 (tr1 (tcd, trc) 11) 10).1), .int (nI q), .int opt], cin g os 51 (mR stp laws z cnt fogs arms kinds faiths places moved), cin g otr 30 ((tr1 (tr1 (tcd, trc) 11) 10).2)] := by
  refine mt.of (cc := cX11_walksAs) (nL := 4) (ret := (some .int)) (own := RX11) (by decide +kernel) rfl rfl (show ([oh, os, otr] : List Nat) = [oh, os, otr] from rfl) (Nat.le_of_ble_eq_true rfl) (fun p e s m below meth c hf hr hlk _ hk hst hw ls hl => ?_)
  have hx := hf.1
  have hb := hf.2.1
  have hts := hf.2.2.2.2
  have hl : lv_has ls 4 [(0, .ref oh), (1, .int 5), (2, .int x)] := hl
  have hinX11 : ∀ w ∈ u_ws RX11 TX11 24, w ∈ wsX11_walksAs := fun w h => List.mem_cons_of_mem _ (List.mem_append_right _ h)
  have w_0 : Cond.fieldLink RX11 244 "LightManModel" "own" "I" ∈ wsX11_walksAs := List.mem_of_getElem? (i := 1) rfl
  refine lv_iload_n hx hb dX11_walksAs_0 rfl (lv_at hl 1 rfl) ?_
  refine lv_iconst (v := 1) hx hb dX11_walksAs_1 (by decide) ?_
  refine lv_icmp_eq (tgt := 10) hx hb dX11_walksAs_2 (by decide) (fun q => absurd q (by decide)) (fun _ => ?_)
  refine lv_iload_n hx hb dX11_walksAs_5 rfl (lv_at hl 1 rfl) ?_
  refine lv_iconst (v := 3) hx hb dX11_walksAs_6 (by decide) ?_
  refine lv_icmp_ne (tgt := 24) hx hb dX11_walksAs_7 (by decide) (fun _ => ?_) (fun q => absurd q (by decide))
  refine lv_iload_n hx hb dX11_walksAs_24 rfl (lv_at hl 1 rfl) ?_
  refine lv_iconst (v := 4) hx hb dX11_walksAs_25 (by decide) ?_
  refine lv_icmp_ne (tgt := 59) hx hb dX11_walksAs_26 (by decide) (fun _ => ?_) (fun q => absurd q (by decide))
  refine lv_aload_n hx hb dX11_walksAs_59 rfl (lv_at hl 0 rfl) ?_
  refine lv_bipush (v := 11) hx hb dX11_walksAs_60 (by decide) ?_
  refine mcV hf hk hst hw (c_X11_starts l g oh os ok ol ord odd otp olt orw oso osz oit oho ohe otr isk tpd oat obg otk ovl rmn tcd (nI q) opt trc 11 (by first | omega | ((repeat apply tr1_le); dsimp only; omega))) (cwV 1 hts gX11_walksAs_X11_starts rfl rfl rfl hdV_X11_starts ⟨Nat.le_of_ble_eq_true rfl, Nat.le_of_ble_eq_true rfl⟩) [0, 2] rfl rfl 0 rfl rfl rfl hl.1 rfl (Nat.le_of_ble_eq_true rfl) dX11_walksAs_62 ⟨Nat.zero_le _, Nat.zero_le _⟩ (W' := [cob oh 11 [.ref os, .ref ok, .ref ol, .ref ord, .int isk, .ref odd, .ref otp, .int (nI tpd), .ref olt, .int oat, .int obg, .int otk, .int ovl, .ref orw, .int (nI rmn), .ref oso, .ref osz, .ref oit, .ref oho, .ref ohe, .ref otr, .int (nI (tr1 (tcd, trc) 11).1), .int (nI q), .int opt], cin g os 51 (mR stp laws z cnt fogs arms kinds faiths places moved), cin g otr 30 ((tr1 (tcd, trc) 11).2)]) rfl (fun H locs hw => ?_)
  refine lv_aload_n hx hb dX11_walksAs_65 rfl (lv_at hl 0 rfl) ?_
  refine lv_aload_n hx hb dX11_walksAs_66 rfl (lv_at hl 0 rfl) ?_
  refine lv_aload_n hx hb dX11_walksAs_67 rfl (lv_at hl 0 rfl) ?_
  refine rg hf hk hw hinX11 0 rfl rfl 22 (by decide) w_0 rfl dX11_walksAs_68 ?_
  refine lv_iconst (v := 0) hx hb dX11_walksAs_71 (by decide) ?_
  refine mcV hf hk hst hw (c_X11_get0 l g oh os ok ol ord odd otp olt orw oso osz oit oho ohe otr stp laws z cnt fogs arms kinds faiths places moved isk tpd oat obg otk ovl rmn ((tr1 (tcd, trc) 11).1) (nI q) opt q (by omega)) (cwV 2 hts gX11_walksAs_X11_get rfl rfl rfl hdV_X11_get ⟨Nat.le_of_ble_eq_true rfl, Nat.le_of_ble_eq_true rfl⟩) [0, 1] rfl rfl 0 rfl rfl rfl hl.1 rfl (Nat.le_of_ble_eq_true rfl) dX11_walksAs_72 ⟨Nat.zero_le _, Nat.zero_le _⟩ (W' := [cob oh 11 [.ref os, .ref ok, .ref ol, .ref ord, .int isk, .ref odd, .ref otp, .int (nI tpd), .ref olt, .int oat, .int obg, .int otk, .int ovl, .ref orw, .int (nI rmn), .ref oso, .ref osz, .ref oit, .ref oho, .ref ohe, .ref otr, .int (nI ((tr1 (tcd, trc) 11).1)), .int (nI q), .int opt], cin g os 51 (mR stp laws z cnt fogs arms kinds faiths places moved), cin g otr 30 ((tr1 (tcd, trc) 11).2)]) rfl (fun H locs hw => ?_)
  refine lv_tope (y := 5) (hkq) ?_
  refine lv_iload_n hx hb dX11_walksAs_75 rfl (lv_at hl 2 rfl) ?_
  refine mcV hf hk hst hw (c_X11_looksAs_5_5 l g oh os ok ol ord odd otp olt orw oso osz oit oho ohe otr stp laws z cnt fogs arms kinds faiths places moved isk tpd oat obg otk ovl rmn ((tr1 (tcd, trc) 11).1) opt ((tr1 (tcd, trc) 11).2) q x (by omega) (hkq) (by first | omega | ((repeat apply tr1_le); dsimp only; omega))) (cwV 2 hts gX11_walksAs_X11_looksAs rfl rfl rfl hdV_X11_looksAs ⟨Nat.le_of_ble_eq_true rfl, Nat.le_of_ble_eq_true rfl⟩) [0, 1, 2] rfl rfl 0 rfl rfl rfl hl.1 rfl (Nat.le_of_ble_eq_true rfl) dX11_walksAs_76 ⟨Nat.zero_le _, Nat.zero_le _⟩ (W' := [cob oh 11 [.ref os, .ref ok, .ref ol, .ref ord, .int isk, .ref odd, .ref otp, .int (nI tpd), .ref olt, .int oat, .int obg, .int otk, .int ovl, .ref orw, .int (nI rmn), .ref oso, .ref osz, .ref oit, .ref oho, .ref ohe, .ref otr, .int (nI (tr1 (((tr1 (tcd, trc) 11).1), ((tr1 (tcd, trc) 11).2)) 10).1), .int (nI q), .int opt], cin g os 51 (mR stp laws z cnt fogs arms kinds faiths places moved), cin g otr 30 ((tr1 (((tr1 (tcd, trc) 11).1), ((tr1 (tcd, trc) 11).2)) 10).2)]) rfl (fun H locs hw => ?_)
  refine lv_aload_n hx hb dX11_walksAs_79 rfl (lv_at hl 0 rfl) ?_
  refine lv_aload_n hx hb dX11_walksAs_80 rfl (lv_at hl 0 rfl) ?_
  refine rg hf hk hw hinX11 0 rfl rfl 22 (by decide) w_0 rfl dX11_walksAs_81 ?_
  refine lv_iconst (v := 2) hx hb dX11_walksAs_84 (by decide) ?_
  refine mcV hf hk hst hw (c_X11_get2 l g oh os ok ol ord odd otp olt orw oso osz oit oho ohe otr stp laws z cnt fogs arms kinds faiths places moved isk tpd oat obg otk ovl rmn ((tr1 (((tr1 (tcd, trc) 11).1), ((tr1 (tcd, trc) 11).2)) 10).1) (nI q) opt q (by omega)) (cwV 2 hts gX11_walksAs_X11_get rfl rfl rfl hdV_X11_get ⟨Nat.le_of_ble_eq_true rfl, Nat.le_of_ble_eq_true rfl⟩) [0, 1] rfl rfl 0 rfl rfl rfl hl.1 rfl (Nat.le_of_ble_eq_true rfl) dX11_walksAs_85 ⟨Nat.zero_le _, Nat.zero_le _⟩ (W' := [cob oh 11 [.ref os, .ref ok, .ref ol, .ref ord, .int isk, .ref odd, .ref otp, .int (nI tpd), .ref olt, .int oat, .int obg, .int otk, .int ovl, .ref orw, .int (nI rmn), .ref oso, .ref osz, .ref oit, .ref oho, .ref ohe, .ref otr, .int (nI ((tr1 (((tr1 (tcd, trc) 11).1), ((tr1 (tcd, trc) 11).2)) 10).1)), .int (nI q), .int opt], cin g os 51 (mR stp laws z cnt fogs arms kinds faiths places moved), cin g otr 30 ((tr1 (((tr1 (tcd, trc) 11).1), ((tr1 (tcd, trc) 11).2)) 10).2)]) rfl (fun H locs hw => ?_)
  refine lv_bipush (v := 6) hx hb dX11_walksAs_88 (by decide) ?_
  refine lv_imul hx hb dX11_walksAs_90 ?_
  refine lv_iadd hx hb dX11_walksAs_91 ?_
  exact re_i hf hr hlk hw (rfl) (by simp only [pr_eta]) dX11_walksAs_92
abbrev rmX11_partsAs_0_0 : Room := { frames := 1, cells := 0, slots := 0, locals := 22 }
set_option maxHeartbeats 4000000 in
set_option maxRecDepth 100000 in
theorem c_X11_partsAs_0_0 (l : Launch) (g : GG) (oh : Nat) (os : Nat) (ok : Nat) (ol : Nat) (ord : Nat) (odd : Nat) (otp : Nat) (olt : Nat) (orw : Nat) (oso : Nat) (osz : Nat) (oit : Nat) (oho : Nat) (ohe : Nat) (otr : Nat) (stp : Nat) (laws : Nat → Int32) (z : Int32) (cnt : Nat) (fogs : Nat → Int32) (arms : Nat → Int32) (kinds : Nat → Int32) (faiths : Nat → Int32) (places : Nat → Int32) (moved : Nat → Int32) (isk : Int32) (tpd : Nat) (oat : Int32) (obg : Int32) (otk : Int32) (ovl : Int32) (rmn : Nat) (tcd : Nat) (trc : Nat → Int32) (q : Nat) (x : Int32) (hq8 : q < 8) (hkq : kinds q = 0) (hbg : tcd ≤ 30) : mt l g yX11_partsAs wsX11_partsAs rmX11_partsAs_0_0 [.ref oh, .int 0, .int x] [cob oh 11 [.ref os, .ref ok, .ref ol, .ref ord, .int isk, .ref odd, .ref otp, .int (nI tpd), .ref olt, .int oat, .int obg, .int otk, .int ovl, .ref orw, .int (nI rmn), .ref oso, .ref osz, .ref oit, .ref oho, .ref ohe, .ref otr, .int (nI tcd), .int (nI q), .int 0], cin g os 51 (mR stp laws z cnt fogs arms kinds faiths places moved), cin g otr 30 trc] (some (.int (prt (nI q) (places q) x))) [cob oh 11 [.ref os, .ref ok, .ref ol, .ref ord, .int isk, .ref odd, .ref otp, .int (nI tpd), .ref olt, .int oat, .int obg, .int otk, .int ovl, .ref orw, .int (nI rmn), .ref oso, .ref osz, .ref oit, .ref oho, .ref ohe, .ref otr, .int (nI (tr1 (tcd, trc) 12).1), .int (nI q), .int (brk (nI q) (places q) 0)], cin g os 51 (mR stp laws z cnt fogs arms kinds faiths places moved), cin g otr 30 ((tr1 (tcd, trc) 12).2)] := by
  refine mt.of (cc := cX11_partsAs) (nL := 4) (ret := (some .int)) (own := RX11) (by decide +kernel) rfl rfl (show ([oh, os, otr] : List Nat) = [oh, os, otr] from rfl) (Nat.le_of_ble_eq_true rfl) (fun p e s m below meth c hf hr hlk _ hk hst hw ls hl => ?_)
  have hx := hf.1
  have hb := hf.2.1
  have hts := hf.2.2.2.2
  have hl : lv_has ls 4 [(0, .ref oh), (1, .int 0), (2, .int x)] := hl
  have hinX11 : ∀ w ∈ u_ws RX11 TX11 24, w ∈ wsX11_partsAs := fun w h => List.mem_cons_of_mem _ (List.mem_append_right _ h)
  have w_0 : Cond.fieldLink RX11 244 "LightManModel" "own" "I" ∈ wsX11_partsAs := List.mem_of_getElem? (i := 1) rfl
  have w_1 : Cond.fieldLink RX11 253 "LightManModel" "isParted" "Z" ∈ wsX11_partsAs := List.mem_of_getElem? (i := 2) rfl
  refine lv_iload_n hx hb dX11_partsAs_0 rfl (lv_at hl 1 rfl) ?_
  refine lv_iconst (v := 3) hx hb dX11_partsAs_1 (by decide) ?_
  refine lv_icmp_ne (tgt := 25) hx hb dX11_partsAs_2 (by decide) (fun _ => ?_) (fun q => absurd q (by decide))
  refine lv_iload_n hx hb dX11_partsAs_25 rfl (lv_at hl 1 rfl) ?_
  refine lv_iconst (v := 5) hx hb dX11_partsAs_26 (by decide) ?_
  refine lv_icmp_ne (tgt := 66) hx hb dX11_partsAs_27 (by decide) (fun _ => ?_) (fun q => absurd q (by decide))
  refine lv_aload_n hx hb dX11_partsAs_66 rfl (lv_at hl 0 rfl) ?_
  refine lv_bipush (v := 12) hx hb dX11_partsAs_67 (by decide) ?_
  refine mcV hf hk hst hw (c_X11_starts l g oh os ok ol ord odd otp olt orw oso osz oit oho ohe otr isk tpd oat obg otk ovl rmn tcd (nI q) 0 trc 12 (by first | omega | ((repeat apply tr1_le); dsimp only; omega))) (cwV 1 hts gX11_partsAs_X11_starts rfl rfl rfl hdV_X11_starts ⟨Nat.le_of_ble_eq_true rfl, Nat.le_of_ble_eq_true rfl⟩) [0, 2] rfl rfl 0 rfl rfl rfl hl.1 rfl (Nat.le_of_ble_eq_true rfl) dX11_partsAs_69 ⟨Nat.zero_le _, Nat.zero_le _⟩ (W' := [cob oh 11 [.ref os, .ref ok, .ref ol, .ref ord, .int isk, .ref odd, .ref otp, .int (nI tpd), .ref olt, .int oat, .int obg, .int otk, .int ovl, .ref orw, .int (nI rmn), .ref oso, .ref osz, .ref oit, .ref oho, .ref ohe, .ref otr, .int (nI (tr1 (tcd, trc) 12).1), .int (nI q), .int 0], cin g os 51 (mR stp laws z cnt fogs arms kinds faiths places moved), cin g otr 30 ((tr1 (tcd, trc) 12).2)]) rfl (fun H locs hw => ?_)
  refine lv_aload_n hx hb dX11_partsAs_72 rfl (lv_at hl 0 rfl) ?_
  refine lv_aload_n hx hb dX11_partsAs_73 rfl (lv_at hl 0 rfl) ?_
  refine rg hf hk hw hinX11 0 rfl rfl 22 (by decide) w_0 rfl dX11_partsAs_74 ?_
  refine lv_iconst (v := 2) hx hb dX11_partsAs_77 (by decide) ?_
  refine mcV hf hk hst hw (c_X11_get2 l g oh os ok ol ord odd otp olt orw oso osz oit oho ohe otr stp laws z cnt fogs arms kinds faiths places moved isk tpd oat obg otk ovl rmn ((tr1 (tcd, trc) 12).1) (nI q) 0 q (by omega)) (cwV 2 hts gX11_partsAs_X11_get rfl rfl rfl hdV_X11_get ⟨Nat.le_of_ble_eq_true rfl, Nat.le_of_ble_eq_true rfl⟩) [0, 1] rfl rfl 0 rfl rfl rfl hl.1 rfl (Nat.le_of_ble_eq_true rfl) dX11_partsAs_78 ⟨Nat.zero_le _, Nat.zero_le _⟩ (W' := [cob oh 11 [.ref os, .ref ok, .ref ol, .ref ord, .int isk, .ref odd, .ref otp, .int (nI tpd), .ref olt, .int oat, .int obg, .int otk, .int ovl, .ref orw, .int (nI rmn), .ref oso, .ref osz, .ref oit, .ref oho, .ref ohe, .ref otr, .int (nI ((tr1 (tcd, trc) 12).1)), .int (nI q), .int 0], cin g os 51 (mR stp laws z cnt fogs arms kinds faiths places moved), cin g otr 30 ((tr1 (tcd, trc) 12).2)]) rfl (fun H locs hw => ?_)
  refine lv_aload_n hx hb dX11_partsAs_81 rfl (lv_at hl 0 rfl) ?_
  refine rg hf hk hw hinX11 0 rfl rfl 22 (by decide) w_0 rfl dX11_partsAs_82 ?_
  refine lv_isub hx hb dX11_partsAs_85 ?_
  refine lv_istore_n (lv' := [(3, .int ((places q) - (nI q))), (0, .ref oh), (1, .int 0), (2, .int x)]) hx hb dX11_partsAs_86 rfl hl (by decide) rfl (fun ls hl => ?_)
  refine lv_aload_n hx hb dX11_partsAs_87 rfl (lv_at hl 1 rfl) ?_
  refine lv_aload_n hx hb dX11_partsAs_88 rfl (lv_at hl 1 rfl) ?_
  refine rg hf hk hw hinX11 0 rfl rfl 23 (by decide) w_1 rfl dX11_partsAs_89 ?_
  refine lv_if_ne (tgt := 99) hx hb dX11_partsAs_92 (by decide) (fun q => absurd (by decide) q) (fun _ => ?_)
  refine lv_iload_n hx hb dX11_partsAs_95 rfl (lv_at hl 0 rfl) ?_
  refine lv_if_ne (tgt := 103) hx hb dX11_partsAs_96 (by decide) (fun c_1 => ?_) (fun c_1 => ?_)
  · refine lv_iconst (v := 0) hx hb dX11_partsAs_103 (by decide) ?_
    refine rp hf hk hw hinX11 tyX11 tyX11_ok nmX11 0 rfl rfl 23 (by decide) w_1 rfl (rfl) rfl (Nat.le_of_ble_eq_true rfl) dX11_partsAs_104 (W' := [cob oh 11 [.ref os, .ref ok, .ref ol, .ref ord, .int isk, .ref odd, .ref otp, .int (nI tpd), .ref olt, .int oat, .int obg, .int otk, .int ovl, .ref orw, .int (nI rmn), .ref oso, .ref osz, .ref oit, .ref oho, .ref ohe, .ref otr, .int (nI ((tr1 (tcd, trc) 12).1)), .int (nI q), .int 0], cin g os 51 (mR stp laws z cnt fogs arms kinds faiths places moved), cin g otr 30 ((tr1 (tcd, trc) 12).2)]) rfl (fun H locs hw => ?_)
    refine lv_aload_n hx hb dX11_partsAs_107 rfl (lv_at hl 1 rfl) ?_
    refine rg hf hk hw hinX11 0 rfl rfl 23 (by decide) w_1 rfl dX11_partsAs_108 ?_
    refine lv_if_eq (tgt := 118) hx hb dX11_partsAs_111 (by decide) (fun _ => ?_) (fun q => absurd (by decide) q)
    refine lv_iload_n hx hb dX11_partsAs_118 rfl (lv_at hl 0 rfl) ?_
    refine lv_iconst (v := (-1)) hx hb dX11_partsAs_119 (by decide) ?_
    refine lv_icmp_ne (tgt := 128) hx hb dX11_partsAs_120 (by decide) (fun c_2 => ?_) (fun c_2 => ?_)
    · refine lv_iload_n hx hb dX11_partsAs_128 rfl (lv_at hl 3 rfl) ?_
      refine lv_iload_n hx hb dX11_partsAs_129 rfl (lv_at hl 0 rfl) ?_
      refine lv_idiv hx hb dX11_partsAs_130 (by assumption) ?_
      exact re_i hf hr hlk hw (by unfold prt; rw [if_neg c_1]) (by rw [show brk (nI q) (places q) 0 = 0 from if_neg c_1]) dX11_partsAs_131
    · refine lv_iload_n hx hb dX11_partsAs_123 rfl (lv_at hl 3 rfl) ?_
      refine lv_ineg hx hb dX11_partsAs_124 ?_
      refine lv_goto (tgt := 131) hx hb dX11_partsAs_125 (by decide) ?_
      exact re_i hf hr hlk hw (by unfold prt; rw [if_neg c_1, c_2, div_m1]) (by rw [show brk (nI q) (places q) 0 = 0 from if_neg c_1]) dX11_partsAs_131
  · refine lv_iconst (v := 1) hx hb dX11_partsAs_99 (by decide) ?_
    refine lv_goto (tgt := 104) hx hb dX11_partsAs_100 (by decide) ?_
    refine rp hf hk hw hinX11 tyX11 tyX11_ok nmX11 0 rfl rfl 23 (by decide) w_1 rfl (rfl) rfl (Nat.le_of_ble_eq_true rfl) dX11_partsAs_104 (W' := [cob oh 11 [.ref os, .ref ok, .ref ol, .ref ord, .int isk, .ref odd, .ref otp, .int (nI tpd), .ref olt, .int oat, .int obg, .int otk, .int ovl, .ref orw, .int (nI rmn), .ref oso, .ref osz, .ref oit, .ref oho, .ref ohe, .ref otr, .int (nI ((tr1 (tcd, trc) 12).1)), .int (nI q), .int 1], cin g os 51 (mR stp laws z cnt fogs arms kinds faiths places moved), cin g otr 30 ((tr1 (tcd, trc) 12).2)]) rfl (fun H locs hw => ?_)
    refine lv_aload_n hx hb dX11_partsAs_107 rfl (lv_at hl 1 rfl) ?_
    refine rg hf hk hw hinX11 0 rfl rfl 23 (by decide) w_1 rfl dX11_partsAs_108 ?_
    refine lv_if_eq (tgt := 118) hx hb dX11_partsAs_111 (by decide) (fun q => absurd q (by decide)) (fun _ => ?_)
    refine lv_iconst (v := 0) hx hb dX11_partsAs_114 (by decide) ?_
    refine lv_goto (tgt := 131) hx hb dX11_partsAs_115 (by decide) ?_
    exact re_i hf hr hlk hw (by unfold prt; rw [if_pos c_1]) (by rw [show brk (nI q) (places q) 0 = 1 from if_pos c_1]) dX11_partsAs_131
abbrev rmX11_partsAs_1_1 : Room := { frames := 1, cells := 0, slots := 0, locals := 22 }
set_option maxHeartbeats 4000000 in
set_option maxRecDepth 100000 in
theorem c_X11_partsAs_1_1 (l : Launch) (g : GG) (oh : Nat) (os : Nat) (ok : Nat) (ol : Nat) (ord : Nat) (odd : Nat) (otp : Nat) (olt : Nat) (orw : Nat) (oso : Nat) (osz : Nat) (oit : Nat) (oho : Nat) (ohe : Nat) (otr : Nat) (stp : Nat) (laws : Nat → Int32) (z : Int32) (cnt : Nat) (fogs : Nat → Int32) (arms : Nat → Int32) (kinds : Nat → Int32) (faiths : Nat → Int32) (places : Nat → Int32) (moved : Nat → Int32) (isk : Int32) (tpd : Nat) (oat : Int32) (obg : Int32) (otk : Int32) (ovl : Int32) (rmn : Nat) (tcd : Nat) (trc : Nat → Int32) (q : Nat) (x : Int32) (hq8 : q < 8) (hkq : kinds q = 1) (hbg : tcd ≤ 30) : mt l g yX11_partsAs wsX11_partsAs rmX11_partsAs_1_1 [.ref oh, .int 1, .int x] [cob oh 11 [.ref os, .ref ok, .ref ol, .ref ord, .int isk, .ref odd, .ref otp, .int (nI tpd), .ref olt, .int oat, .int obg, .int otk, .int ovl, .ref orw, .int (nI rmn), .ref oso, .ref osz, .ref oit, .ref oho, .ref ohe, .ref otr, .int (nI tcd), .int (nI q), .int 0], cin g os 51 (mR stp laws z cnt fogs arms kinds faiths places moved), cin g otr 30 trc] (some (.int (prt (nI q) (places q) x))) [cob oh 11 [.ref os, .ref ok, .ref ol, .ref ord, .int isk, .ref odd, .ref otp, .int (nI tpd), .ref olt, .int oat, .int obg, .int otk, .int ovl, .ref orw, .int (nI rmn), .ref oso, .ref osz, .ref oit, .ref oho, .ref ohe, .ref otr, .int (nI (tr1 (tcd, trc) 12).1), .int (nI q), .int (brk (nI q) (places q) 0)], cin g os 51 (mR stp laws z cnt fogs arms kinds faiths places moved), cin g otr 30 ((tr1 (tcd, trc) 12).2)] := by
  refine mt.of (cc := cX11_partsAs) (nL := 4) (ret := (some .int)) (own := RX11) (by decide +kernel) rfl rfl (show ([oh, os, otr] : List Nat) = [oh, os, otr] from rfl) (Nat.le_of_ble_eq_true rfl) (fun p e s m below meth c hf hr hlk _ hk hst hw ls hl => ?_)
  have hx := hf.1
  have hb := hf.2.1
  have hts := hf.2.2.2.2
  have hl : lv_has ls 4 [(0, .ref oh), (1, .int 1), (2, .int x)] := hl
  have hinX11 : ∀ w ∈ u_ws RX11 TX11 24, w ∈ wsX11_partsAs := fun w h => List.mem_cons_of_mem _ (List.mem_append_right _ h)
  have w_0 : Cond.fieldLink RX11 244 "LightManModel" "own" "I" ∈ wsX11_partsAs := List.mem_of_getElem? (i := 1) rfl
  have w_1 : Cond.fieldLink RX11 253 "LightManModel" "isParted" "Z" ∈ wsX11_partsAs := List.mem_of_getElem? (i := 2) rfl
  refine lv_iload_n hx hb dX11_partsAs_0 rfl (lv_at hl 1 rfl) ?_
  refine lv_iconst (v := 3) hx hb dX11_partsAs_1 (by decide) ?_
  refine lv_icmp_ne (tgt := 25) hx hb dX11_partsAs_2 (by decide) (fun _ => ?_) (fun q => absurd q (by decide))
  refine lv_iload_n hx hb dX11_partsAs_25 rfl (lv_at hl 1 rfl) ?_
  refine lv_iconst (v := 5) hx hb dX11_partsAs_26 (by decide) ?_
  refine lv_icmp_ne (tgt := 66) hx hb dX11_partsAs_27 (by decide) (fun _ => ?_) (fun q => absurd q (by decide))
  refine lv_aload_n hx hb dX11_partsAs_66 rfl (lv_at hl 0 rfl) ?_
  refine lv_bipush (v := 12) hx hb dX11_partsAs_67 (by decide) ?_
  refine mcV hf hk hst hw (c_X11_starts l g oh os ok ol ord odd otp olt orw oso osz oit oho ohe otr isk tpd oat obg otk ovl rmn tcd (nI q) 0 trc 12 (by first | omega | ((repeat apply tr1_le); dsimp only; omega))) (cwV 1 hts gX11_partsAs_X11_starts rfl rfl rfl hdV_X11_starts ⟨Nat.le_of_ble_eq_true rfl, Nat.le_of_ble_eq_true rfl⟩) [0, 2] rfl rfl 0 rfl rfl rfl hl.1 rfl (Nat.le_of_ble_eq_true rfl) dX11_partsAs_69 ⟨Nat.zero_le _, Nat.zero_le _⟩ (W' := [cob oh 11 [.ref os, .ref ok, .ref ol, .ref ord, .int isk, .ref odd, .ref otp, .int (nI tpd), .ref olt, .int oat, .int obg, .int otk, .int ovl, .ref orw, .int (nI rmn), .ref oso, .ref osz, .ref oit, .ref oho, .ref ohe, .ref otr, .int (nI (tr1 (tcd, trc) 12).1), .int (nI q), .int 0], cin g os 51 (mR stp laws z cnt fogs arms kinds faiths places moved), cin g otr 30 ((tr1 (tcd, trc) 12).2)]) rfl (fun H locs hw => ?_)
  refine lv_aload_n hx hb dX11_partsAs_72 rfl (lv_at hl 0 rfl) ?_
  refine lv_aload_n hx hb dX11_partsAs_73 rfl (lv_at hl 0 rfl) ?_
  refine rg hf hk hw hinX11 0 rfl rfl 22 (by decide) w_0 rfl dX11_partsAs_74 ?_
  refine lv_iconst (v := 2) hx hb dX11_partsAs_77 (by decide) ?_
  refine mcV hf hk hst hw (c_X11_get2 l g oh os ok ol ord odd otp olt orw oso osz oit oho ohe otr stp laws z cnt fogs arms kinds faiths places moved isk tpd oat obg otk ovl rmn ((tr1 (tcd, trc) 12).1) (nI q) 0 q (by omega)) (cwV 2 hts gX11_partsAs_X11_get rfl rfl rfl hdV_X11_get ⟨Nat.le_of_ble_eq_true rfl, Nat.le_of_ble_eq_true rfl⟩) [0, 1] rfl rfl 0 rfl rfl rfl hl.1 rfl (Nat.le_of_ble_eq_true rfl) dX11_partsAs_78 ⟨Nat.zero_le _, Nat.zero_le _⟩ (W' := [cob oh 11 [.ref os, .ref ok, .ref ol, .ref ord, .int isk, .ref odd, .ref otp, .int (nI tpd), .ref olt, .int oat, .int obg, .int otk, .int ovl, .ref orw, .int (nI rmn), .ref oso, .ref osz, .ref oit, .ref oho, .ref ohe, .ref otr, .int (nI ((tr1 (tcd, trc) 12).1)), .int (nI q), .int 0], cin g os 51 (mR stp laws z cnt fogs arms kinds faiths places moved), cin g otr 30 ((tr1 (tcd, trc) 12).2)]) rfl (fun H locs hw => ?_)
  refine lv_aload_n hx hb dX11_partsAs_81 rfl (lv_at hl 0 rfl) ?_
  refine rg hf hk hw hinX11 0 rfl rfl 22 (by decide) w_0 rfl dX11_partsAs_82 ?_
  refine lv_isub hx hb dX11_partsAs_85 ?_
  refine lv_istore_n (lv' := [(3, .int ((places q) - (nI q))), (0, .ref oh), (1, .int 1), (2, .int x)]) hx hb dX11_partsAs_86 rfl hl (by decide) rfl (fun ls hl => ?_)
  refine lv_aload_n hx hb dX11_partsAs_87 rfl (lv_at hl 1 rfl) ?_
  refine lv_aload_n hx hb dX11_partsAs_88 rfl (lv_at hl 1 rfl) ?_
  refine rg hf hk hw hinX11 0 rfl rfl 23 (by decide) w_1 rfl dX11_partsAs_89 ?_
  refine lv_if_ne (tgt := 99) hx hb dX11_partsAs_92 (by decide) (fun q => absurd (by decide) q) (fun _ => ?_)
  refine lv_iload_n hx hb dX11_partsAs_95 rfl (lv_at hl 0 rfl) ?_
  refine lv_if_ne (tgt := 103) hx hb dX11_partsAs_96 (by decide) (fun c_1 => ?_) (fun c_1 => ?_)
  · refine lv_iconst (v := 0) hx hb dX11_partsAs_103 (by decide) ?_
    refine rp hf hk hw hinX11 tyX11 tyX11_ok nmX11 0 rfl rfl 23 (by decide) w_1 rfl (rfl) rfl (Nat.le_of_ble_eq_true rfl) dX11_partsAs_104 (W' := [cob oh 11 [.ref os, .ref ok, .ref ol, .ref ord, .int isk, .ref odd, .ref otp, .int (nI tpd), .ref olt, .int oat, .int obg, .int otk, .int ovl, .ref orw, .int (nI rmn), .ref oso, .ref osz, .ref oit, .ref oho, .ref ohe, .ref otr, .int (nI ((tr1 (tcd, trc) 12).1)), .int (nI q), .int 0], cin g os 51 (mR stp laws z cnt fogs arms kinds faiths places moved), cin g otr 30 ((tr1 (tcd, trc) 12).2)]) rfl (fun H locs hw => ?_)
    refine lv_aload_n hx hb dX11_partsAs_107 rfl (lv_at hl 1 rfl) ?_
    refine rg hf hk hw hinX11 0 rfl rfl 23 (by decide) w_1 rfl dX11_partsAs_108 ?_
    refine lv_if_eq (tgt := 118) hx hb dX11_partsAs_111 (by decide) (fun _ => ?_) (fun q => absurd (by decide) q)
    refine lv_iload_n hx hb dX11_partsAs_118 rfl (lv_at hl 0 rfl) ?_
    refine lv_iconst (v := (-1)) hx hb dX11_partsAs_119 (by decide) ?_
    refine lv_icmp_ne (tgt := 128) hx hb dX11_partsAs_120 (by decide) (fun c_2 => ?_) (fun c_2 => ?_)
    · refine lv_iload_n hx hb dX11_partsAs_128 rfl (lv_at hl 3 rfl) ?_
      refine lv_iload_n hx hb dX11_partsAs_129 rfl (lv_at hl 0 rfl) ?_
      refine lv_idiv hx hb dX11_partsAs_130 (by assumption) ?_
      exact re_i hf hr hlk hw (by unfold prt; rw [if_neg c_1]) (by rw [show brk (nI q) (places q) 0 = 0 from if_neg c_1]) dX11_partsAs_131
    · refine lv_iload_n hx hb dX11_partsAs_123 rfl (lv_at hl 3 rfl) ?_
      refine lv_ineg hx hb dX11_partsAs_124 ?_
      refine lv_goto (tgt := 131) hx hb dX11_partsAs_125 (by decide) ?_
      exact re_i hf hr hlk hw (by unfold prt; rw [if_neg c_1, c_2, div_m1]) (by rw [show brk (nI q) (places q) 0 = 0 from if_neg c_1]) dX11_partsAs_131
  · refine lv_iconst (v := 1) hx hb dX11_partsAs_99 (by decide) ?_
    refine lv_goto (tgt := 104) hx hb dX11_partsAs_100 (by decide) ?_
    refine rp hf hk hw hinX11 tyX11 tyX11_ok nmX11 0 rfl rfl 23 (by decide) w_1 rfl (rfl) rfl (Nat.le_of_ble_eq_true rfl) dX11_partsAs_104 (W' := [cob oh 11 [.ref os, .ref ok, .ref ol, .ref ord, .int isk, .ref odd, .ref otp, .int (nI tpd), .ref olt, .int oat, .int obg, .int otk, .int ovl, .ref orw, .int (nI rmn), .ref oso, .ref osz, .ref oit, .ref oho, .ref ohe, .ref otr, .int (nI ((tr1 (tcd, trc) 12).1)), .int (nI q), .int 1], cin g os 51 (mR stp laws z cnt fogs arms kinds faiths places moved), cin g otr 30 ((tr1 (tcd, trc) 12).2)]) rfl (fun H locs hw => ?_)
    refine lv_aload_n hx hb dX11_partsAs_107 rfl (lv_at hl 1 rfl) ?_
    refine rg hf hk hw hinX11 0 rfl rfl 23 (by decide) w_1 rfl dX11_partsAs_108 ?_
    refine lv_if_eq (tgt := 118) hx hb dX11_partsAs_111 (by decide) (fun q => absurd q (by decide)) (fun _ => ?_)
    refine lv_iconst (v := 0) hx hb dX11_partsAs_114 (by decide) ?_
    refine lv_goto (tgt := 131) hx hb dX11_partsAs_115 (by decide) ?_
    exact re_i hf hr hlk hw (by unfold prt; rw [if_pos c_1]) (by rw [show brk (nI q) (places q) 0 = 1 from if_pos c_1]) dX11_partsAs_131
abbrev rmX11_partsAs_2_2 : Room := { frames := 1, cells := 0, slots := 0, locals := 22 }
set_option maxHeartbeats 4000000 in
set_option maxRecDepth 100000 in
theorem c_X11_partsAs_2_2 (l : Launch) (g : GG) (oh : Nat) (os : Nat) (ok : Nat) (ol : Nat) (ord : Nat) (odd : Nat) (otp : Nat) (olt : Nat) (orw : Nat) (oso : Nat) (osz : Nat) (oit : Nat) (oho : Nat) (ohe : Nat) (otr : Nat) (stp : Nat) (laws : Nat → Int32) (z : Int32) (cnt : Nat) (fogs : Nat → Int32) (arms : Nat → Int32) (kinds : Nat → Int32) (faiths : Nat → Int32) (places : Nat → Int32) (moved : Nat → Int32) (isk : Int32) (tpd : Nat) (oat : Int32) (obg : Int32) (otk : Int32) (ovl : Int32) (rmn : Nat) (tcd : Nat) (trc : Nat → Int32) (q : Nat) (x : Int32) (hq8 : q < 8) (hkq : kinds q = 2) (hbg : tcd ≤ 30) : mt l g yX11_partsAs wsX11_partsAs rmX11_partsAs_2_2 [.ref oh, .int 2, .int x] [cob oh 11 [.ref os, .ref ok, .ref ol, .ref ord, .int isk, .ref odd, .ref otp, .int (nI tpd), .ref olt, .int oat, .int obg, .int otk, .int ovl, .ref orw, .int (nI rmn), .ref oso, .ref osz, .ref oit, .ref oho, .ref ohe, .ref otr, .int (nI tcd), .int (nI q), .int 0], cin g os 51 (mR stp laws z cnt fogs arms kinds faiths places moved), cin g otr 30 trc] (some (.int (prt (nI q) (places q) x))) [cob oh 11 [.ref os, .ref ok, .ref ol, .ref ord, .int isk, .ref odd, .ref otp, .int (nI tpd), .ref olt, .int oat, .int obg, .int otk, .int ovl, .ref orw, .int (nI rmn), .ref oso, .ref osz, .ref oit, .ref oho, .ref ohe, .ref otr, .int (nI (tr1 (tcd, trc) 12).1), .int (nI q), .int (brk (nI q) (places q) 0)], cin g os 51 (mR stp laws z cnt fogs arms kinds faiths places moved), cin g otr 30 ((tr1 (tcd, trc) 12).2)] := by
  refine mt.of (cc := cX11_partsAs) (nL := 4) (ret := (some .int)) (own := RX11) (by decide +kernel) rfl rfl (show ([oh, os, otr] : List Nat) = [oh, os, otr] from rfl) (Nat.le_of_ble_eq_true rfl) (fun p e s m below meth c hf hr hlk _ hk hst hw ls hl => ?_)
  have hx := hf.1
  have hb := hf.2.1
  have hts := hf.2.2.2.2
  have hl : lv_has ls 4 [(0, .ref oh), (1, .int 2), (2, .int x)] := hl
  have hinX11 : ∀ w ∈ u_ws RX11 TX11 24, w ∈ wsX11_partsAs := fun w h => List.mem_cons_of_mem _ (List.mem_append_right _ h)
  have w_0 : Cond.fieldLink RX11 244 "LightManModel" "own" "I" ∈ wsX11_partsAs := List.mem_of_getElem? (i := 1) rfl
  have w_1 : Cond.fieldLink RX11 253 "LightManModel" "isParted" "Z" ∈ wsX11_partsAs := List.mem_of_getElem? (i := 2) rfl
  refine lv_iload_n hx hb dX11_partsAs_0 rfl (lv_at hl 1 rfl) ?_
  refine lv_iconst (v := 3) hx hb dX11_partsAs_1 (by decide) ?_
  refine lv_icmp_ne (tgt := 25) hx hb dX11_partsAs_2 (by decide) (fun _ => ?_) (fun q => absurd q (by decide))
  refine lv_iload_n hx hb dX11_partsAs_25 rfl (lv_at hl 1 rfl) ?_
  refine lv_iconst (v := 5) hx hb dX11_partsAs_26 (by decide) ?_
  refine lv_icmp_ne (tgt := 66) hx hb dX11_partsAs_27 (by decide) (fun _ => ?_) (fun q => absurd q (by decide))
  refine lv_aload_n hx hb dX11_partsAs_66 rfl (lv_at hl 0 rfl) ?_
  refine lv_bipush (v := 12) hx hb dX11_partsAs_67 (by decide) ?_
  refine mcV hf hk hst hw (c_X11_starts l g oh os ok ol ord odd otp olt orw oso osz oit oho ohe otr isk tpd oat obg otk ovl rmn tcd (nI q) 0 trc 12 (by first | omega | ((repeat apply tr1_le); dsimp only; omega))) (cwV 1 hts gX11_partsAs_X11_starts rfl rfl rfl hdV_X11_starts ⟨Nat.le_of_ble_eq_true rfl, Nat.le_of_ble_eq_true rfl⟩) [0, 2] rfl rfl 0 rfl rfl rfl hl.1 rfl (Nat.le_of_ble_eq_true rfl) dX11_partsAs_69 ⟨Nat.zero_le _, Nat.zero_le _⟩ (W' := [cob oh 11 [.ref os, .ref ok, .ref ol, .ref ord, .int isk, .ref odd, .ref otp, .int (nI tpd), .ref olt, .int oat, .int obg, .int otk, .int ovl, .ref orw, .int (nI rmn), .ref oso, .ref osz, .ref oit, .ref oho, .ref ohe, .ref otr, .int (nI (tr1 (tcd, trc) 12).1), .int (nI q), .int 0], cin g os 51 (mR stp laws z cnt fogs arms kinds faiths places moved), cin g otr 30 ((tr1 (tcd, trc) 12).2)]) rfl (fun H locs hw => ?_)
  refine lv_aload_n hx hb dX11_partsAs_72 rfl (lv_at hl 0 rfl) ?_
  refine lv_aload_n hx hb dX11_partsAs_73 rfl (lv_at hl 0 rfl) ?_
  refine rg hf hk hw hinX11 0 rfl rfl 22 (by decide) w_0 rfl dX11_partsAs_74 ?_
  refine lv_iconst (v := 2) hx hb dX11_partsAs_77 (by decide) ?_
  refine mcV hf hk hst hw (c_X11_get2 l g oh os ok ol ord odd otp olt orw oso osz oit oho ohe otr stp laws z cnt fogs arms kinds faiths places moved isk tpd oat obg otk ovl rmn ((tr1 (tcd, trc) 12).1) (nI q) 0 q (by omega)) (cwV 2 hts gX11_partsAs_X11_get rfl rfl rfl hdV_X11_get ⟨Nat.le_of_ble_eq_true rfl, Nat.le_of_ble_eq_true rfl⟩) [0, 1] rfl rfl 0 rfl rfl rfl hl.1 rfl (Nat.le_of_ble_eq_true rfl) dX11_partsAs_78 ⟨Nat.zero_le _, Nat.zero_le _⟩ (W' := [cob oh 11 [.ref os, .ref ok, .ref ol, .ref ord, .int isk, .ref odd, .ref otp, .int (nI tpd), .ref olt, .int oat, .int obg, .int otk, .int ovl, .ref orw, .int (nI rmn), .ref oso, .ref osz, .ref oit, .ref oho, .ref ohe, .ref otr, .int (nI ((tr1 (tcd, trc) 12).1)), .int (nI q), .int 0], cin g os 51 (mR stp laws z cnt fogs arms kinds faiths places moved), cin g otr 30 ((tr1 (tcd, trc) 12).2)]) rfl (fun H locs hw => ?_)
  refine lv_aload_n hx hb dX11_partsAs_81 rfl (lv_at hl 0 rfl) ?_
  refine rg hf hk hw hinX11 0 rfl rfl 22 (by decide) w_0 rfl dX11_partsAs_82 ?_
  refine lv_isub hx hb dX11_partsAs_85 ?_
  refine lv_istore_n (lv' := [(3, .int ((places q) - (nI q))), (0, .ref oh), (1, .int 2), (2, .int x)]) hx hb dX11_partsAs_86 rfl hl (by decide) rfl (fun ls hl => ?_)
  refine lv_aload_n hx hb dX11_partsAs_87 rfl (lv_at hl 1 rfl) ?_
  refine lv_aload_n hx hb dX11_partsAs_88 rfl (lv_at hl 1 rfl) ?_
  refine rg hf hk hw hinX11 0 rfl rfl 23 (by decide) w_1 rfl dX11_partsAs_89 ?_
  refine lv_if_ne (tgt := 99) hx hb dX11_partsAs_92 (by decide) (fun q => absurd (by decide) q) (fun _ => ?_)
  refine lv_iload_n hx hb dX11_partsAs_95 rfl (lv_at hl 0 rfl) ?_
  refine lv_if_ne (tgt := 103) hx hb dX11_partsAs_96 (by decide) (fun c_1 => ?_) (fun c_1 => ?_)
  · refine lv_iconst (v := 0) hx hb dX11_partsAs_103 (by decide) ?_
    refine rp hf hk hw hinX11 tyX11 tyX11_ok nmX11 0 rfl rfl 23 (by decide) w_1 rfl (rfl) rfl (Nat.le_of_ble_eq_true rfl) dX11_partsAs_104 (W' := [cob oh 11 [.ref os, .ref ok, .ref ol, .ref ord, .int isk, .ref odd, .ref otp, .int (nI tpd), .ref olt, .int oat, .int obg, .int otk, .int ovl, .ref orw, .int (nI rmn), .ref oso, .ref osz, .ref oit, .ref oho, .ref ohe, .ref otr, .int (nI ((tr1 (tcd, trc) 12).1)), .int (nI q), .int 0], cin g os 51 (mR stp laws z cnt fogs arms kinds faiths places moved), cin g otr 30 ((tr1 (tcd, trc) 12).2)]) rfl (fun H locs hw => ?_)
    refine lv_aload_n hx hb dX11_partsAs_107 rfl (lv_at hl 1 rfl) ?_
    refine rg hf hk hw hinX11 0 rfl rfl 23 (by decide) w_1 rfl dX11_partsAs_108 ?_
    refine lv_if_eq (tgt := 118) hx hb dX11_partsAs_111 (by decide) (fun _ => ?_) (fun q => absurd (by decide) q)
    refine lv_iload_n hx hb dX11_partsAs_118 rfl (lv_at hl 0 rfl) ?_
    refine lv_iconst (v := (-1)) hx hb dX11_partsAs_119 (by decide) ?_
    refine lv_icmp_ne (tgt := 128) hx hb dX11_partsAs_120 (by decide) (fun c_2 => ?_) (fun c_2 => ?_)
    · refine lv_iload_n hx hb dX11_partsAs_128 rfl (lv_at hl 3 rfl) ?_
      refine lv_iload_n hx hb dX11_partsAs_129 rfl (lv_at hl 0 rfl) ?_
      refine lv_idiv hx hb dX11_partsAs_130 (by assumption) ?_
      exact re_i hf hr hlk hw (by unfold prt; rw [if_neg c_1]) (by rw [show brk (nI q) (places q) 0 = 0 from if_neg c_1]) dX11_partsAs_131
    · refine lv_iload_n hx hb dX11_partsAs_123 rfl (lv_at hl 3 rfl) ?_
      refine lv_ineg hx hb dX11_partsAs_124 ?_
      refine lv_goto (tgt := 131) hx hb dX11_partsAs_125 (by decide) ?_
      exact re_i hf hr hlk hw (by unfold prt; rw [if_neg c_1, c_2, div_m1]) (by rw [show brk (nI q) (places q) 0 = 0 from if_neg c_1]) dX11_partsAs_131
  · refine lv_iconst (v := 1) hx hb dX11_partsAs_99 (by decide) ?_
    refine lv_goto (tgt := 104) hx hb dX11_partsAs_100 (by decide) ?_
    refine rp hf hk hw hinX11 tyX11 tyX11_ok nmX11 0 rfl rfl 23 (by decide) w_1 rfl (rfl) rfl (Nat.le_of_ble_eq_true rfl) dX11_partsAs_104 (W' := [cob oh 11 [.ref os, .ref ok, .ref ol, .ref ord, .int isk, .ref odd, .ref otp, .int (nI tpd), .ref olt, .int oat, .int obg, .int otk, .int ovl, .ref orw, .int (nI rmn), .ref oso, .ref osz, .ref oit, .ref oho, .ref ohe, .ref otr, .int (nI ((tr1 (tcd, trc) 12).1)), .int (nI q), .int 1], cin g os 51 (mR stp laws z cnt fogs arms kinds faiths places moved), cin g otr 30 ((tr1 (tcd, trc) 12).2)]) rfl (fun H locs hw => ?_)
    refine lv_aload_n hx hb dX11_partsAs_107 rfl (lv_at hl 1 rfl) ?_
    refine rg hf hk hw hinX11 0 rfl rfl 23 (by decide) w_1 rfl dX11_partsAs_108 ?_
    refine lv_if_eq (tgt := 118) hx hb dX11_partsAs_111 (by decide) (fun q => absurd q (by decide)) (fun _ => ?_)
    refine lv_iconst (v := 0) hx hb dX11_partsAs_114 (by decide) ?_
    refine lv_goto (tgt := 131) hx hb dX11_partsAs_115 (by decide) ?_
    exact re_i hf hr hlk hw (by unfold prt; rw [if_pos c_1]) (by rw [show brk (nI q) (places q) 0 = 1 from if_pos c_1]) dX11_partsAs_131
abbrev rmX11_partsAs_1_3 : Room := { frames := 1, cells := 0, slots := 0, locals := 22 }
set_option maxHeartbeats 4000000 in
set_option maxRecDepth 100000 in
theorem c_X11_partsAs_1_3 (l : Launch) (g : GG) (oh : Nat) (os : Nat) (ok : Nat) (ol : Nat) (ord : Nat) (odd : Nat) (otp : Nat) (olt : Nat) (orw : Nat) (oso : Nat) (osz : Nat) (oit : Nat) (oho : Nat) (ohe : Nat) (otr : Nat) (stp : Nat) (laws : Nat → Int32) (z : Int32) (cnt : Nat) (fogs : Nat → Int32) (arms : Nat → Int32) (kinds : Nat → Int32) (faiths : Nat → Int32) (places : Nat → Int32) (moved : Nat → Int32) (isk : Int32) (tpd : Nat) (oat : Int32) (obg : Int32) (otk : Int32) (ovl : Int32) (rmn : Nat) (tcd : Nat) (trc : Nat → Int32) (q : Nat) (x : Int32) (hq8 : q < 8) (hkq : kinds q = 3) (hbg : tcd ≤ 30) : mt l g yX11_partsAs wsX11_partsAs rmX11_partsAs_1_3 [.ref oh, .int 1, .int x] [cob oh 11 [.ref os, .ref ok, .ref ol, .ref ord, .int isk, .ref odd, .ref otp, .int (nI tpd), .ref olt, .int oat, .int obg, .int otk, .int ovl, .ref orw, .int (nI rmn), .ref oso, .ref osz, .ref oit, .ref oho, .ref ohe, .ref otr, .int (nI tcd), .int (nI q), .int 0], cin g os 51 (mR stp laws z cnt fogs arms kinds faiths places moved), cin g otr 30 trc] (some (.int (prt (nI q) (places q) x))) [cob oh 11 [.ref os, .ref ok, .ref ol, .ref ord, .int isk, .ref odd, .ref otp, .int (nI tpd), .ref olt, .int oat, .int obg, .int otk, .int ovl, .ref orw, .int (nI rmn), .ref oso, .ref osz, .ref oit, .ref oho, .ref ohe, .ref otr, .int (nI (tr1 (tcd, trc) 12).1), .int (nI q), .int (brk (nI q) (places q) 0)], cin g os 51 (mR stp laws z cnt fogs arms kinds faiths places moved), cin g otr 30 ((tr1 (tcd, trc) 12).2)] := by
  refine mt.of (cc := cX11_partsAs) (nL := 4) (ret := (some .int)) (own := RX11) (by decide +kernel) rfl rfl (show ([oh, os, otr] : List Nat) = [oh, os, otr] from rfl) (Nat.le_of_ble_eq_true rfl) (fun p e s m below meth c hf hr hlk _ hk hst hw ls hl => ?_)
  have hx := hf.1
  have hb := hf.2.1
  have hts := hf.2.2.2.2
  have hl : lv_has ls 4 [(0, .ref oh), (1, .int 1), (2, .int x)] := hl
  have hinX11 : ∀ w ∈ u_ws RX11 TX11 24, w ∈ wsX11_partsAs := fun w h => List.mem_cons_of_mem _ (List.mem_append_right _ h)
  have w_0 : Cond.fieldLink RX11 244 "LightManModel" "own" "I" ∈ wsX11_partsAs := List.mem_of_getElem? (i := 1) rfl
  have w_1 : Cond.fieldLink RX11 253 "LightManModel" "isParted" "Z" ∈ wsX11_partsAs := List.mem_of_getElem? (i := 2) rfl
  refine lv_iload_n hx hb dX11_partsAs_0 rfl (lv_at hl 1 rfl) ?_
  refine lv_iconst (v := 3) hx hb dX11_partsAs_1 (by decide) ?_
  refine lv_icmp_ne (tgt := 25) hx hb dX11_partsAs_2 (by decide) (fun _ => ?_) (fun q => absurd q (by decide))
  refine lv_iload_n hx hb dX11_partsAs_25 rfl (lv_at hl 1 rfl) ?_
  refine lv_iconst (v := 5) hx hb dX11_partsAs_26 (by decide) ?_
  refine lv_icmp_ne (tgt := 66) hx hb dX11_partsAs_27 (by decide) (fun _ => ?_) (fun q => absurd q (by decide))
  refine lv_aload_n hx hb dX11_partsAs_66 rfl (lv_at hl 0 rfl) ?_
  refine lv_bipush (v := 12) hx hb dX11_partsAs_67 (by decide) ?_
  refine mcV hf hk hst hw (c_X11_starts l g oh os ok ol ord odd otp olt orw oso osz oit oho ohe otr isk tpd oat obg otk ovl rmn tcd (nI q) 0 trc 12 (by first | omega | ((repeat apply tr1_le); dsimp only; omega))) (cwV 1 hts gX11_partsAs_X11_starts rfl rfl rfl hdV_X11_starts ⟨Nat.le_of_ble_eq_true rfl, Nat.le_of_ble_eq_true rfl⟩) [0, 2] rfl rfl 0 rfl rfl rfl hl.1 rfl (Nat.le_of_ble_eq_true rfl) dX11_partsAs_69 ⟨Nat.zero_le _, Nat.zero_le _⟩ (W' := [cob oh 11 [.ref os, .ref ok, .ref ol, .ref ord, .int isk, .ref odd, .ref otp, .int (nI tpd), .ref olt, .int oat, .int obg, .int otk, .int ovl, .ref orw, .int (nI rmn), .ref oso, .ref osz, .ref oit, .ref oho, .ref ohe, .ref otr, .int (nI (tr1 (tcd, trc) 12).1), .int (nI q), .int 0], cin g os 51 (mR stp laws z cnt fogs arms kinds faiths places moved), cin g otr 30 ((tr1 (tcd, trc) 12).2)]) rfl (fun H locs hw => ?_)
  refine lv_aload_n hx hb dX11_partsAs_72 rfl (lv_at hl 0 rfl) ?_
  refine lv_aload_n hx hb dX11_partsAs_73 rfl (lv_at hl 0 rfl) ?_
  refine rg hf hk hw hinX11 0 rfl rfl 22 (by decide) w_0 rfl dX11_partsAs_74 ?_
  refine lv_iconst (v := 2) hx hb dX11_partsAs_77 (by decide) ?_
  refine mcV hf hk hst hw (c_X11_get2 l g oh os ok ol ord odd otp olt orw oso osz oit oho ohe otr stp laws z cnt fogs arms kinds faiths places moved isk tpd oat obg otk ovl rmn ((tr1 (tcd, trc) 12).1) (nI q) 0 q (by omega)) (cwV 2 hts gX11_partsAs_X11_get rfl rfl rfl hdV_X11_get ⟨Nat.le_of_ble_eq_true rfl, Nat.le_of_ble_eq_true rfl⟩) [0, 1] rfl rfl 0 rfl rfl rfl hl.1 rfl (Nat.le_of_ble_eq_true rfl) dX11_partsAs_78 ⟨Nat.zero_le _, Nat.zero_le _⟩ (W' := [cob oh 11 [.ref os, .ref ok, .ref ol, .ref ord, .int isk, .ref odd, .ref otp, .int (nI tpd), .ref olt, .int oat, .int obg, .int otk, .int ovl, .ref orw, .int (nI rmn), .ref oso, .ref osz, .ref oit, .ref oho, .ref ohe, .ref otr, .int (nI ((tr1 (tcd, trc) 12).1)), .int (nI q), .int 0], cin g os 51 (mR stp laws z cnt fogs arms kinds faiths places moved), cin g otr 30 ((tr1 (tcd, trc) 12).2)]) rfl (fun H locs hw => ?_)
  refine lv_aload_n hx hb dX11_partsAs_81 rfl (lv_at hl 0 rfl) ?_
  refine rg hf hk hw hinX11 0 rfl rfl 22 (by decide) w_0 rfl dX11_partsAs_82 ?_
  refine lv_isub hx hb dX11_partsAs_85 ?_
  refine lv_istore_n (lv' := [(3, .int ((places q) - (nI q))), (0, .ref oh), (1, .int 1), (2, .int x)]) hx hb dX11_partsAs_86 rfl hl (by decide) rfl (fun ls hl => ?_)
  refine lv_aload_n hx hb dX11_partsAs_87 rfl (lv_at hl 1 rfl) ?_
  refine lv_aload_n hx hb dX11_partsAs_88 rfl (lv_at hl 1 rfl) ?_
  refine rg hf hk hw hinX11 0 rfl rfl 23 (by decide) w_1 rfl dX11_partsAs_89 ?_
  refine lv_if_ne (tgt := 99) hx hb dX11_partsAs_92 (by decide) (fun q => absurd (by decide) q) (fun _ => ?_)
  refine lv_iload_n hx hb dX11_partsAs_95 rfl (lv_at hl 0 rfl) ?_
  refine lv_if_ne (tgt := 103) hx hb dX11_partsAs_96 (by decide) (fun c_1 => ?_) (fun c_1 => ?_)
  · refine lv_iconst (v := 0) hx hb dX11_partsAs_103 (by decide) ?_
    refine rp hf hk hw hinX11 tyX11 tyX11_ok nmX11 0 rfl rfl 23 (by decide) w_1 rfl (rfl) rfl (Nat.le_of_ble_eq_true rfl) dX11_partsAs_104 (W' := [cob oh 11 [.ref os, .ref ok, .ref ol, .ref ord, .int isk, .ref odd, .ref otp, .int (nI tpd), .ref olt, .int oat, .int obg, .int otk, .int ovl, .ref orw, .int (nI rmn), .ref oso, .ref osz, .ref oit, .ref oho, .ref ohe, .ref otr, .int (nI ((tr1 (tcd, trc) 12).1)), .int (nI q), .int 0], cin g os 51 (mR stp laws z cnt fogs arms kinds faiths places moved), cin g otr 30 ((tr1 (tcd, trc) 12).2)]) rfl (fun H locs hw => ?_)
    refine lv_aload_n hx hb dX11_partsAs_107 rfl (lv_at hl 1 rfl) ?_
    refine rg hf hk hw hinX11 0 rfl rfl 23 (by decide) w_1 rfl dX11_partsAs_108 ?_
    refine lv_if_eq (tgt := 118) hx hb dX11_partsAs_111 (by decide) (fun _ => ?_) (fun q => absurd (by decide) q)
    refine lv_iload_n hx hb dX11_partsAs_118 rfl (lv_at hl 0 rfl) ?_
    refine lv_iconst (v := (-1)) hx hb dX11_partsAs_119 (by decide) ?_
    refine lv_icmp_ne (tgt := 128) hx hb dX11_partsAs_120 (by decide) (fun c_2 => ?_) (fun c_2 => ?_)
    · refine lv_iload_n hx hb dX11_partsAs_128 rfl (lv_at hl 3 rfl) ?_
      refine lv_iload_n hx hb dX11_partsAs_129 rfl (lv_at hl 0 rfl) ?_
      refine lv_idiv hx hb dX11_partsAs_130 (by assumption) ?_
      exact re_i hf hr hlk hw (by unfold prt; rw [if_neg c_1]) (by rw [show brk (nI q) (places q) 0 = 0 from if_neg c_1]) dX11_partsAs_131
    · refine lv_iload_n hx hb dX11_partsAs_123 rfl (lv_at hl 3 rfl) ?_
      refine lv_ineg hx hb dX11_partsAs_124 ?_
      refine lv_goto (tgt := 131) hx hb dX11_partsAs_125 (by decide) ?_
      exact re_i hf hr hlk hw (by unfold prt; rw [if_neg c_1, c_2, div_m1]) (by rw [show brk (nI q) (places q) 0 = 0 from if_neg c_1]) dX11_partsAs_131
  · refine lv_iconst (v := 1) hx hb dX11_partsAs_99 (by decide) ?_
    refine lv_goto (tgt := 104) hx hb dX11_partsAs_100 (by decide) ?_
    refine rp hf hk hw hinX11 tyX11 tyX11_ok nmX11 0 rfl rfl 23 (by decide) w_1 rfl (rfl) rfl (Nat.le_of_ble_eq_true rfl) dX11_partsAs_104 (W' := [cob oh 11 [.ref os, .ref ok, .ref ol, .ref ord, .int isk, .ref odd, .ref otp, .int (nI tpd), .ref olt, .int oat, .int obg, .int otk, .int ovl, .ref orw, .int (nI rmn), .ref oso, .ref osz, .ref oit, .ref oho, .ref ohe, .ref otr, .int (nI ((tr1 (tcd, trc) 12).1)), .int (nI q), .int 1], cin g os 51 (mR stp laws z cnt fogs arms kinds faiths places moved), cin g otr 30 ((tr1 (tcd, trc) 12).2)]) rfl (fun H locs hw => ?_)
    refine lv_aload_n hx hb dX11_partsAs_107 rfl (lv_at hl 1 rfl) ?_
    refine rg hf hk hw hinX11 0 rfl rfl 23 (by decide) w_1 rfl dX11_partsAs_108 ?_
    refine lv_if_eq (tgt := 118) hx hb dX11_partsAs_111 (by decide) (fun q => absurd q (by decide)) (fun _ => ?_)
    refine lv_iconst (v := 0) hx hb dX11_partsAs_114 (by decide) ?_
    refine lv_goto (tgt := 131) hx hb dX11_partsAs_115 (by decide) ?_
    exact re_i hf hr hlk hw (by unfold prt; rw [if_pos c_1]) (by rw [show brk (nI q) (places q) 0 = 1 from if_pos c_1]) dX11_partsAs_131
theorem hdV_X11_partsAs : yX11_partsAs.cls = RX11 ∧ yX11_partsAs.cls ≠ "java/lang/invoke/MethodHandle" ∧ yX11_partsAs.cls ≠ "java/lang/invoke/VarHandle" ∧ (parseMethodDescriptor yX11_partsAs.desc).map (fun d => d.parameters.length) = some 2 := by decide +kernel
abbrev rmX11_partsAs_3_3 : Room := { frames := 2, cells := 0, slots := 0, locals := 45 }
set_option maxHeartbeats 4000000 in
set_option maxRecDepth 100000 in
theorem c_X11_partsAs_3_3 (l : Launch) (g : GG) (oh : Nat) (os : Nat) (ok : Nat) (ol : Nat) (ord : Nat) (odd : Nat) (otp : Nat) (olt : Nat) (orw : Nat) (oso : Nat) (osz : Nat) (oit : Nat) (oho : Nat) (ohe : Nat) (otr : Nat) (stp : Nat) (laws : Nat → Int32) (z : Int32) (cnt : Nat) (fogs : Nat → Int32) (arms : Nat → Int32) (kinds : Nat → Int32) (faiths : Nat → Int32) (places : Nat → Int32) (moved : Nat → Int32) (isk : Int32) (tpd : Nat) (oat : Int32) (obg : Int32) (otk : Int32) (ovl : Int32) (rmn : Nat) (tcd : Nat) (trc : Nat → Int32) (q : Nat) (x : Int32) (hq8 : q < 8) (hkq : kinds q = 3) (hbg : tcd ≤ 30) : mt l g yX11_partsAs wsX11_partsAs rmX11_partsAs_3_3 [.ref oh, .int 3, .int x] [cob oh 11 [.ref os, .ref ok, .ref ol, .ref ord, .int isk, .ref odd, .ref otp, .int (nI tpd), .ref olt, .int oat, .int obg, .int otk, .int ovl, .ref orw, .int (nI rmn), .ref oso, .ref osz, .ref oit, .ref oho, .ref ohe, .ref otr, .int (nI tcd), .int (nI q), .int 0], cin g os 51 (mR stp laws z cnt fogs arms kinds faiths places moved), cin g otr 30 trc] (some (.int ((prt (nI q) (places q) (x + 4)) * (nI q)))) [cob oh 11 [.ref os, .ref ok, .ref ol, .ref ord, .int isk, .ref odd, .ref otp, .int (nI tpd), .ref olt, .int oat, .int obg, .int otk, .int ovl, .ref orw, .int (nI rmn), .ref oso, .ref osz, .ref oit, .ref oho, .ref ohe, .ref otr, .int (nI (tr1 (tr1 (tcd, trc) 50) 12).1), .int (nI q), .int (brk (nI q) (places q) 0)], cin g os 51 (mR stp laws z cnt fogs arms kinds faiths places moved), cin g otr 30 ((tr1 (tr1 (tcd, trc) 50) 12).2)] := by
  refine mt.of (cc := cX11_partsAs) (nL := 4) (ret := (some .int)) (own := RX11) (by decide +kernel) rfl rfl (show ([oh, os, otr] : List Nat) = [oh, os, otr] from rfl) (Nat.le_of_ble_eq_true rfl) (fun p e s m below meth c hf hr hlk _ hk hst hw ls hl => ?_)
  have hx := hf.1
  have hb := hf.2.1
  have hts := hf.2.2.2.2
  have hl : lv_has ls 4 [(0, .ref oh), (1, .int 3), (2, .int x)] := hl
  have hinX11 : ∀ w ∈ u_ws RX11 TX11 24, w ∈ wsX11_partsAs := fun w h => List.mem_cons_of_mem _ (List.mem_append_right _ h)
  have w_0 : Cond.fieldLink RX11 244 "LightManModel" "own" "I" ∈ wsX11_partsAs := List.mem_of_getElem? (i := 1) rfl
  refine lv_iload_n hx hb dX11_partsAs_0 rfl (lv_at hl 1 rfl) ?_
  refine lv_iconst (v := 3) hx hb dX11_partsAs_1 (by decide) ?_
  refine lv_icmp_ne (tgt := 25) hx hb dX11_partsAs_2 (by decide) (fun q => absurd (by decide) q) (fun _ => ?_)
  refine lv_aload_n hx hb dX11_partsAs_5 rfl (lv_at hl 0 rfl) ?_
  refine lv_bipush (v := 50) hx hb dX11_partsAs_6 (by decide) ?_
  refine mcV hf hk hst hw (c_X11_starts l g oh os ok ol ord odd otp olt orw oso osz oit oho ohe otr isk tpd oat obg otk ovl rmn tcd (nI q) 0 trc 50 (by first | omega | ((repeat apply tr1_le); dsimp only; omega))) (cwV 1 hts gX11_partsAs_X11_starts rfl rfl rfl hdV_X11_starts ⟨Nat.le_of_ble_eq_true rfl, Nat.le_of_ble_eq_true rfl⟩) [0, 2] rfl rfl 0 rfl rfl rfl hl.1 rfl (Nat.le_of_ble_eq_true rfl) dX11_partsAs_8 ⟨Nat.zero_le _, Nat.zero_le _⟩ (W' := [cob oh 11 [.ref os, .ref ok, .ref ol, .ref ord, .int isk, .ref odd, .ref otp, .int (nI tpd), .ref olt, .int oat, .int obg, .int otk, .int ovl, .ref orw, .int (nI rmn), .ref oso, .ref osz, .ref oit, .ref oho, .ref ohe, .ref otr, .int (nI (tr1 (tcd, trc) 50).1), .int (nI q), .int 0], cin g os 51 (mR stp laws z cnt fogs arms kinds faiths places moved), cin g otr 30 ((tr1 (tcd, trc) 50).2)]) rfl (fun H locs hw => ?_)
  refine lv_aload_n hx hb dX11_partsAs_11 rfl (lv_at hl 0 rfl) ?_
  refine lv_iconst (v := 1) hx hb dX11_partsAs_12 (by decide) ?_
  refine lv_iload_n hx hb dX11_partsAs_13 rfl (lv_at hl 2 rfl) ?_
  refine lv_iconst (v := 4) hx hb dX11_partsAs_14 (by decide) ?_
  refine lv_iadd hx hb dX11_partsAs_15 ?_
  refine mcV hf hk hst hw (c_X11_partsAs_1_3 l g oh os ok ol ord odd otp olt orw oso osz oit oho ohe otr stp laws z cnt fogs arms kinds faiths places moved isk tpd oat obg otk ovl rmn ((tr1 (tcd, trc) 50).1) ((tr1 (tcd, trc) 50).2) q (x + 4) (by omega) (hkq) (by first | omega | ((repeat apply tr1_le); dsimp only; omega))) (cwV 2 hts gX11_partsAs_X11_partsAs rfl rfl rfl hdV_X11_partsAs ⟨Nat.le_of_ble_eq_true rfl, Nat.le_of_ble_eq_true rfl⟩) [0, 1, 2] rfl rfl 0 rfl rfl rfl hl.1 rfl (Nat.le_of_ble_eq_true rfl) dX11_partsAs_16 ⟨Nat.zero_le _, Nat.zero_le _⟩ (W' := [cob oh 11 [.ref os, .ref ok, .ref ol, .ref ord, .int isk, .ref odd, .ref otp, .int (nI tpd), .ref olt, .int oat, .int obg, .int otk, .int ovl, .ref orw, .int (nI rmn), .ref oso, .ref osz, .ref oit, .ref oho, .ref ohe, .ref otr, .int (nI (tr1 (((tr1 (tcd, trc) 50).1), ((tr1 (tcd, trc) 50).2)) 12).1), .int (nI q), .int (brk (nI q) (places q) 0)], cin g os 51 (mR stp laws z cnt fogs arms kinds faiths places moved), cin g otr 30 ((tr1 (((tr1 (tcd, trc) 50).1), ((tr1 (tcd, trc) 50).2)) 12).2)]) rfl (fun H locs hw => ?_)
  refine lv_aload_n hx hb dX11_partsAs_19 rfl (lv_at hl 0 rfl) ?_
  refine rg hf hk hw hinX11 0 rfl rfl 22 (by decide) w_0 rfl dX11_partsAs_20 ?_
  refine lv_imul hx hb dX11_partsAs_23 ?_
  exact re_i hf hr hlk hw (rfl) (by simp only [pr_eta]) dX11_partsAs_24
abbrev rmX11_partsAs_4_4 : Room := { frames := 1, cells := 0, slots := 0, locals := 22 }
set_option maxHeartbeats 4000000 in
set_option maxRecDepth 100000 in
theorem c_X11_partsAs_4_4 (l : Launch) (g : GG) (oh : Nat) (os : Nat) (ok : Nat) (ol : Nat) (ord : Nat) (odd : Nat) (otp : Nat) (olt : Nat) (orw : Nat) (oso : Nat) (osz : Nat) (oit : Nat) (oho : Nat) (ohe : Nat) (otr : Nat) (stp : Nat) (laws : Nat → Int32) (z : Int32) (cnt : Nat) (fogs : Nat → Int32) (arms : Nat → Int32) (kinds : Nat → Int32) (faiths : Nat → Int32) (places : Nat → Int32) (moved : Nat → Int32) (isk : Int32) (tpd : Nat) (oat : Int32) (obg : Int32) (otk : Int32) (ovl : Int32) (rmn : Nat) (tcd : Nat) (trc : Nat → Int32) (q : Nat) (x : Int32) (hq8 : q < 8) (hkq : kinds q = 4) (hbg : tcd ≤ 30) : mt l g yX11_partsAs wsX11_partsAs rmX11_partsAs_4_4 [.ref oh, .int 4, .int x] [cob oh 11 [.ref os, .ref ok, .ref ol, .ref ord, .int isk, .ref odd, .ref otp, .int (nI tpd), .ref olt, .int oat, .int obg, .int otk, .int ovl, .ref orw, .int (nI rmn), .ref oso, .ref osz, .ref oit, .ref oho, .ref ohe, .ref otr, .int (nI tcd), .int (nI q), .int 0], cin g os 51 (mR stp laws z cnt fogs arms kinds faiths places moved), cin g otr 30 trc] (some (.int (prt (nI q) (places q) x))) [cob oh 11 [.ref os, .ref ok, .ref ol, .ref ord, .int isk, .ref odd, .ref otp, .int (nI tpd), .ref olt, .int oat, .int obg, .int otk, .int ovl, .ref orw, .int (nI rmn), .ref oso, .ref osz, .ref oit, .ref oho, .ref ohe, .ref otr, .int (nI (tr1 (tcd, trc) 12).1), .int (nI q), .int (brk (nI q) (places q) 0)], cin g os 51 (mR stp laws z cnt fogs arms kinds faiths places moved), cin g otr 30 ((tr1 (tcd, trc) 12).2)] := by
  refine mt.of (cc := cX11_partsAs) (nL := 4) (ret := (some .int)) (own := RX11) (by decide +kernel) rfl rfl (show ([oh, os, otr] : List Nat) = [oh, os, otr] from rfl) (Nat.le_of_ble_eq_true rfl) (fun p e s m below meth c hf hr hlk _ hk hst hw ls hl => ?_)
  have hx := hf.1
  have hb := hf.2.1
  have hts := hf.2.2.2.2
  have hl : lv_has ls 4 [(0, .ref oh), (1, .int 4), (2, .int x)] := hl
  have hinX11 : ∀ w ∈ u_ws RX11 TX11 24, w ∈ wsX11_partsAs := fun w h => List.mem_cons_of_mem _ (List.mem_append_right _ h)
  have w_0 : Cond.fieldLink RX11 244 "LightManModel" "own" "I" ∈ wsX11_partsAs := List.mem_of_getElem? (i := 1) rfl
  have w_1 : Cond.fieldLink RX11 253 "LightManModel" "isParted" "Z" ∈ wsX11_partsAs := List.mem_of_getElem? (i := 2) rfl
  refine lv_iload_n hx hb dX11_partsAs_0 rfl (lv_at hl 1 rfl) ?_
  refine lv_iconst (v := 3) hx hb dX11_partsAs_1 (by decide) ?_
  refine lv_icmp_ne (tgt := 25) hx hb dX11_partsAs_2 (by decide) (fun _ => ?_) (fun q => absurd q (by decide))
  refine lv_iload_n hx hb dX11_partsAs_25 rfl (lv_at hl 1 rfl) ?_
  refine lv_iconst (v := 5) hx hb dX11_partsAs_26 (by decide) ?_
  refine lv_icmp_ne (tgt := 66) hx hb dX11_partsAs_27 (by decide) (fun _ => ?_) (fun q => absurd q (by decide))
  refine lv_aload_n hx hb dX11_partsAs_66 rfl (lv_at hl 0 rfl) ?_
  refine lv_bipush (v := 12) hx hb dX11_partsAs_67 (by decide) ?_
  refine mcV hf hk hst hw (c_X11_starts l g oh os ok ol ord odd otp olt orw oso osz oit oho ohe otr isk tpd oat obg otk ovl rmn tcd (nI q) 0 trc 12 (by first | omega | ((repeat apply tr1_le); dsimp only; omega))) (cwV 1 hts gX11_partsAs_X11_starts rfl rfl rfl hdV_X11_starts ⟨Nat.le_of_ble_eq_true rfl, Nat.le_of_ble_eq_true rfl⟩) [0, 2] rfl rfl 0 rfl rfl rfl hl.1 rfl (Nat.le_of_ble_eq_true rfl) dX11_partsAs_69 ⟨Nat.zero_le _, Nat.zero_le _⟩ (W' := [cob oh 11 [.ref os, .ref ok, .ref ol, .ref ord, .int isk, .ref odd, .ref otp, .int (nI tpd), .ref olt, .int oat, .int obg, .int otk, .int ovl, .ref orw, .int (nI rmn), .ref oso, .ref osz, .ref oit, .ref oho, .ref ohe, .ref otr, .int (nI (tr1 (tcd, trc) 12).1), .int (nI q), .int 0], cin g os 51 (mR stp laws z cnt fogs arms kinds faiths places moved), cin g otr 30 ((tr1 (tcd, trc) 12).2)]) rfl (fun H locs hw => ?_)
  refine lv_aload_n hx hb dX11_partsAs_72 rfl (lv_at hl 0 rfl) ?_
  refine lv_aload_n hx hb dX11_partsAs_73 rfl (lv_at hl 0 rfl) ?_
  refine rg hf hk hw hinX11 0 rfl rfl 22 (by decide) w_0 rfl dX11_partsAs_74 ?_
  refine lv_iconst (v := 2) hx hb dX11_partsAs_77 (by decide) ?_
  refine mcV hf hk hst hw (c_X11_get2 l g oh os ok ol ord odd otp olt orw oso osz oit oho ohe otr stp laws z cnt fogs arms kinds faiths places moved isk tpd oat obg otk ovl rmn ((tr1 (tcd, trc) 12).1) (nI q) 0 q (by omega)) (cwV 2 hts gX11_partsAs_X11_get rfl rfl rfl hdV_X11_get ⟨Nat.le_of_ble_eq_true rfl, Nat.le_of_ble_eq_true rfl⟩) [0, 1] rfl rfl 0 rfl rfl rfl hl.1 rfl (Nat.le_of_ble_eq_true rfl) dX11_partsAs_78 ⟨Nat.zero_le _, Nat.zero_le _⟩ (W' := [cob oh 11 [.ref os, .ref ok, .ref ol, .ref ord, .int isk, .ref odd, .ref otp, .int (nI tpd), .ref olt, .int oat, .int obg, .int otk, .int ovl, .ref orw, .int (nI rmn), .ref oso, .ref osz, .ref oit, .ref oho, .ref ohe, .ref otr, .int (nI ((tr1 (tcd, trc) 12).1)), .int (nI q), .int 0], cin g os 51 (mR stp laws z cnt fogs arms kinds faiths places moved), cin g otr 30 ((tr1 (tcd, trc) 12).2)]) rfl (fun H locs hw => ?_)
  refine lv_aload_n hx hb dX11_partsAs_81 rfl (lv_at hl 0 rfl) ?_
  refine rg hf hk hw hinX11 0 rfl rfl 22 (by decide) w_0 rfl dX11_partsAs_82 ?_
  refine lv_isub hx hb dX11_partsAs_85 ?_
  refine lv_istore_n (lv' := [(3, .int ((places q) - (nI q))), (0, .ref oh), (1, .int 4), (2, .int x)]) hx hb dX11_partsAs_86 rfl hl (by decide) rfl (fun ls hl => ?_)
  refine lv_aload_n hx hb dX11_partsAs_87 rfl (lv_at hl 1 rfl) ?_
  refine lv_aload_n hx hb dX11_partsAs_88 rfl (lv_at hl 1 rfl) ?_
  refine rg hf hk hw hinX11 0 rfl rfl 23 (by decide) w_1 rfl dX11_partsAs_89 ?_
  refine lv_if_ne (tgt := 99) hx hb dX11_partsAs_92 (by decide) (fun q => absurd (by decide) q) (fun _ => ?_)
  refine lv_iload_n hx hb dX11_partsAs_95 rfl (lv_at hl 0 rfl) ?_
  refine lv_if_ne (tgt := 103) hx hb dX11_partsAs_96 (by decide) (fun c_1 => ?_) (fun c_1 => ?_)
  · refine lv_iconst (v := 0) hx hb dX11_partsAs_103 (by decide) ?_
    refine rp hf hk hw hinX11 tyX11 tyX11_ok nmX11 0 rfl rfl 23 (by decide) w_1 rfl (rfl) rfl (Nat.le_of_ble_eq_true rfl) dX11_partsAs_104 (W' := [cob oh 11 [.ref os, .ref ok, .ref ol, .ref ord, .int isk, .ref odd, .ref otp, .int (nI tpd), .ref olt, .int oat, .int obg, .int otk, .int ovl, .ref orw, .int (nI rmn), .ref oso, .ref osz, .ref oit, .ref oho, .ref ohe, .ref otr, .int (nI ((tr1 (tcd, trc) 12).1)), .int (nI q), .int 0], cin g os 51 (mR stp laws z cnt fogs arms kinds faiths places moved), cin g otr 30 ((tr1 (tcd, trc) 12).2)]) rfl (fun H locs hw => ?_)
    refine lv_aload_n hx hb dX11_partsAs_107 rfl (lv_at hl 1 rfl) ?_
    refine rg hf hk hw hinX11 0 rfl rfl 23 (by decide) w_1 rfl dX11_partsAs_108 ?_
    refine lv_if_eq (tgt := 118) hx hb dX11_partsAs_111 (by decide) (fun _ => ?_) (fun q => absurd (by decide) q)
    refine lv_iload_n hx hb dX11_partsAs_118 rfl (lv_at hl 0 rfl) ?_
    refine lv_iconst (v := (-1)) hx hb dX11_partsAs_119 (by decide) ?_
    refine lv_icmp_ne (tgt := 128) hx hb dX11_partsAs_120 (by decide) (fun c_2 => ?_) (fun c_2 => ?_)
    · refine lv_iload_n hx hb dX11_partsAs_128 rfl (lv_at hl 3 rfl) ?_
      refine lv_iload_n hx hb dX11_partsAs_129 rfl (lv_at hl 0 rfl) ?_
      refine lv_idiv hx hb dX11_partsAs_130 (by assumption) ?_
      exact re_i hf hr hlk hw (by unfold prt; rw [if_neg c_1]) (by rw [show brk (nI q) (places q) 0 = 0 from if_neg c_1]) dX11_partsAs_131
    · refine lv_iload_n hx hb dX11_partsAs_123 rfl (lv_at hl 3 rfl) ?_
      refine lv_ineg hx hb dX11_partsAs_124 ?_
      refine lv_goto (tgt := 131) hx hb dX11_partsAs_125 (by decide) ?_
      exact re_i hf hr hlk hw (by unfold prt; rw [if_neg c_1, c_2, div_m1]) (by rw [show brk (nI q) (places q) 0 = 0 from if_neg c_1]) dX11_partsAs_131
  · refine lv_iconst (v := 1) hx hb dX11_partsAs_99 (by decide) ?_
    refine lv_goto (tgt := 104) hx hb dX11_partsAs_100 (by decide) ?_
    refine rp hf hk hw hinX11 tyX11 tyX11_ok nmX11 0 rfl rfl 23 (by decide) w_1 rfl (rfl) rfl (Nat.le_of_ble_eq_true rfl) dX11_partsAs_104 (W' := [cob oh 11 [.ref os, .ref ok, .ref ol, .ref ord, .int isk, .ref odd, .ref otp, .int (nI tpd), .ref olt, .int oat, .int obg, .int otk, .int ovl, .ref orw, .int (nI rmn), .ref oso, .ref osz, .ref oit, .ref oho, .ref ohe, .ref otr, .int (nI ((tr1 (tcd, trc) 12).1)), .int (nI q), .int 1], cin g os 51 (mR stp laws z cnt fogs arms kinds faiths places moved), cin g otr 30 ((tr1 (tcd, trc) 12).2)]) rfl (fun H locs hw => ?_)
    refine lv_aload_n hx hb dX11_partsAs_107 rfl (lv_at hl 1 rfl) ?_
    refine rg hf hk hw hinX11 0 rfl rfl 23 (by decide) w_1 rfl dX11_partsAs_108 ?_
    refine lv_if_eq (tgt := 118) hx hb dX11_partsAs_111 (by decide) (fun q => absurd q (by decide)) (fun _ => ?_)
    refine lv_iconst (v := 0) hx hb dX11_partsAs_114 (by decide) ?_
    refine lv_goto (tgt := 131) hx hb dX11_partsAs_115 (by decide) ?_
    exact re_i hf hr hlk hw (by unfold prt; rw [if_pos c_1]) (by rw [show brk (nI q) (places q) 0 = 1 from if_pos c_1]) dX11_partsAs_131
abbrev rmX11_partsAs_0_5 : Room := { frames := 1, cells := 0, slots := 0, locals := 22 }
set_option maxHeartbeats 4000000 in
set_option maxRecDepth 100000 in
theorem c_X11_partsAs_0_5 (l : Launch) (g : GG) (oh : Nat) (os : Nat) (ok : Nat) (ol : Nat) (ord : Nat) (odd : Nat) (otp : Nat) (olt : Nat) (orw : Nat) (oso : Nat) (osz : Nat) (oit : Nat) (oho : Nat) (ohe : Nat) (otr : Nat) (stp : Nat) (laws : Nat → Int32) (z : Int32) (cnt : Nat) (fogs : Nat → Int32) (arms : Nat → Int32) (kinds : Nat → Int32) (faiths : Nat → Int32) (places : Nat → Int32) (moved : Nat → Int32) (isk : Int32) (tpd : Nat) (oat : Int32) (obg : Int32) (otk : Int32) (ovl : Int32) (rmn : Nat) (tcd : Nat) (trc : Nat → Int32) (q : Nat) (x : Int32) (hq8 : q < 8) (hkq : kinds q = 5) (hbg : tcd ≤ 30) : mt l g yX11_partsAs wsX11_partsAs rmX11_partsAs_0_5 [.ref oh, .int 0, .int x] [cob oh 11 [.ref os, .ref ok, .ref ol, .ref ord, .int isk, .ref odd, .ref otp, .int (nI tpd), .ref olt, .int oat, .int obg, .int otk, .int ovl, .ref orw, .int (nI rmn), .ref oso, .ref osz, .ref oit, .ref oho, .ref ohe, .ref otr, .int (nI tcd), .int (nI q), .int 0], cin g os 51 (mR stp laws z cnt fogs arms kinds faiths places moved), cin g otr 30 trc] (some (.int (prt (nI q) (places q) x))) [cob oh 11 [.ref os, .ref ok, .ref ol, .ref ord, .int isk, .ref odd, .ref otp, .int (nI tpd), .ref olt, .int oat, .int obg, .int otk, .int ovl, .ref orw, .int (nI rmn), .ref oso, .ref osz, .ref oit, .ref oho, .ref ohe, .ref otr, .int (nI (tr1 (tcd, trc) 12).1), .int (nI q), .int (brk (nI q) (places q) 0)], cin g os 51 (mR stp laws z cnt fogs arms kinds faiths places moved), cin g otr 30 ((tr1 (tcd, trc) 12).2)] := by
  refine mt.of (cc := cX11_partsAs) (nL := 4) (ret := (some .int)) (own := RX11) (by decide +kernel) rfl rfl (show ([oh, os, otr] : List Nat) = [oh, os, otr] from rfl) (Nat.le_of_ble_eq_true rfl) (fun p e s m below meth c hf hr hlk _ hk hst hw ls hl => ?_)
  have hx := hf.1
  have hb := hf.2.1
  have hts := hf.2.2.2.2
  have hl : lv_has ls 4 [(0, .ref oh), (1, .int 0), (2, .int x)] := hl
  have hinX11 : ∀ w ∈ u_ws RX11 TX11 24, w ∈ wsX11_partsAs := fun w h => List.mem_cons_of_mem _ (List.mem_append_right _ h)
  have w_0 : Cond.fieldLink RX11 244 "LightManModel" "own" "I" ∈ wsX11_partsAs := List.mem_of_getElem? (i := 1) rfl
  have w_1 : Cond.fieldLink RX11 253 "LightManModel" "isParted" "Z" ∈ wsX11_partsAs := List.mem_of_getElem? (i := 2) rfl
  refine lv_iload_n hx hb dX11_partsAs_0 rfl (lv_at hl 1 rfl) ?_
  refine lv_iconst (v := 3) hx hb dX11_partsAs_1 (by decide) ?_
  refine lv_icmp_ne (tgt := 25) hx hb dX11_partsAs_2 (by decide) (fun _ => ?_) (fun q => absurd q (by decide))
  refine lv_iload_n hx hb dX11_partsAs_25 rfl (lv_at hl 1 rfl) ?_
  refine lv_iconst (v := 5) hx hb dX11_partsAs_26 (by decide) ?_
  refine lv_icmp_ne (tgt := 66) hx hb dX11_partsAs_27 (by decide) (fun _ => ?_) (fun q => absurd q (by decide))
  refine lv_aload_n hx hb dX11_partsAs_66 rfl (lv_at hl 0 rfl) ?_
  refine lv_bipush (v := 12) hx hb dX11_partsAs_67 (by decide) ?_
  refine mcV hf hk hst hw (c_X11_starts l g oh os ok ol ord odd otp olt orw oso osz oit oho ohe otr isk tpd oat obg otk ovl rmn tcd (nI q) 0 trc 12 (by first | omega | ((repeat apply tr1_le); dsimp only; omega))) (cwV 1 hts gX11_partsAs_X11_starts rfl rfl rfl hdV_X11_starts ⟨Nat.le_of_ble_eq_true rfl, Nat.le_of_ble_eq_true rfl⟩) [0, 2] rfl rfl 0 rfl rfl rfl hl.1 rfl (Nat.le_of_ble_eq_true rfl) dX11_partsAs_69 ⟨Nat.zero_le _, Nat.zero_le _⟩ (W' := [cob oh 11 [.ref os, .ref ok, .ref ol, .ref ord, .int isk, .ref odd, .ref otp, .int (nI tpd), .ref olt, .int oat, .int obg, .int otk, .int ovl, .ref orw, .int (nI rmn), .ref oso, .ref osz, .ref oit, .ref oho, .ref ohe, .ref otr, .int (nI (tr1 (tcd, trc) 12).1), .int (nI q), .int 0], cin g os 51 (mR stp laws z cnt fogs arms kinds faiths places moved), cin g otr 30 ((tr1 (tcd, trc) 12).2)]) rfl (fun H locs hw => ?_)
  refine lv_aload_n hx hb dX11_partsAs_72 rfl (lv_at hl 0 rfl) ?_
  refine lv_aload_n hx hb dX11_partsAs_73 rfl (lv_at hl 0 rfl) ?_
  refine rg hf hk hw hinX11 0 rfl rfl 22 (by decide) w_0 rfl dX11_partsAs_74 ?_
  refine lv_iconst (v := 2) hx hb dX11_partsAs_77 (by decide) ?_
  refine mcV hf hk hst hw (c_X11_get2 l g oh os ok ol ord odd otp olt orw oso osz oit oho ohe otr stp laws z cnt fogs arms kinds faiths places moved isk tpd oat obg otk ovl rmn ((tr1 (tcd, trc) 12).1) (nI q) 0 q (by omega)) (cwV 2 hts gX11_partsAs_X11_get rfl rfl rfl hdV_X11_get ⟨Nat.le_of_ble_eq_true rfl, Nat.le_of_ble_eq_true rfl⟩) [0, 1] rfl rfl 0 rfl rfl rfl hl.1 rfl (Nat.le_of_ble_eq_true rfl) dX11_partsAs_78 ⟨Nat.zero_le _, Nat.zero_le _⟩ (W' := [cob oh 11 [.ref os, .ref ok, .ref ol, .ref ord, .int isk, .ref odd, .ref otp, .int (nI tpd), .ref olt, .int oat, .int obg, .int otk, .int ovl, .ref orw, .int (nI rmn), .ref oso, .ref osz, .ref oit, .ref oho, .ref ohe, .ref otr, .int (nI ((tr1 (tcd, trc) 12).1)), .int (nI q), .int 0], cin g os 51 (mR stp laws z cnt fogs arms kinds faiths places moved), cin g otr 30 ((tr1 (tcd, trc) 12).2)]) rfl (fun H locs hw => ?_)
  refine lv_aload_n hx hb dX11_partsAs_81 rfl (lv_at hl 0 rfl) ?_
  refine rg hf hk hw hinX11 0 rfl rfl 22 (by decide) w_0 rfl dX11_partsAs_82 ?_
  refine lv_isub hx hb dX11_partsAs_85 ?_
  refine lv_istore_n (lv' := [(3, .int ((places q) - (nI q))), (0, .ref oh), (1, .int 0), (2, .int x)]) hx hb dX11_partsAs_86 rfl hl (by decide) rfl (fun ls hl => ?_)
  refine lv_aload_n hx hb dX11_partsAs_87 rfl (lv_at hl 1 rfl) ?_
  refine lv_aload_n hx hb dX11_partsAs_88 rfl (lv_at hl 1 rfl) ?_
  refine rg hf hk hw hinX11 0 rfl rfl 23 (by decide) w_1 rfl dX11_partsAs_89 ?_
  refine lv_if_ne (tgt := 99) hx hb dX11_partsAs_92 (by decide) (fun q => absurd (by decide) q) (fun _ => ?_)
  refine lv_iload_n hx hb dX11_partsAs_95 rfl (lv_at hl 0 rfl) ?_
  refine lv_if_ne (tgt := 103) hx hb dX11_partsAs_96 (by decide) (fun c_1 => ?_) (fun c_1 => ?_)
  · refine lv_iconst (v := 0) hx hb dX11_partsAs_103 (by decide) ?_
    refine rp hf hk hw hinX11 tyX11 tyX11_ok nmX11 0 rfl rfl 23 (by decide) w_1 rfl (rfl) rfl (Nat.le_of_ble_eq_true rfl) dX11_partsAs_104 (W' := [cob oh 11 [.ref os, .ref ok, .ref ol, .ref ord, .int isk, .ref odd, .ref otp, .int (nI tpd), .ref olt, .int oat, .int obg, .int otk, .int ovl, .ref orw, .int (nI rmn), .ref oso, .ref osz, .ref oit, .ref oho, .ref ohe, .ref otr, .int (nI ((tr1 (tcd, trc) 12).1)), .int (nI q), .int 0], cin g os 51 (mR stp laws z cnt fogs arms kinds faiths places moved), cin g otr 30 ((tr1 (tcd, trc) 12).2)]) rfl (fun H locs hw => ?_)
    refine lv_aload_n hx hb dX11_partsAs_107 rfl (lv_at hl 1 rfl) ?_
    refine rg hf hk hw hinX11 0 rfl rfl 23 (by decide) w_1 rfl dX11_partsAs_108 ?_
    refine lv_if_eq (tgt := 118) hx hb dX11_partsAs_111 (by decide) (fun _ => ?_) (fun q => absurd (by decide) q)
    refine lv_iload_n hx hb dX11_partsAs_118 rfl (lv_at hl 0 rfl) ?_
    refine lv_iconst (v := (-1)) hx hb dX11_partsAs_119 (by decide) ?_
    refine lv_icmp_ne (tgt := 128) hx hb dX11_partsAs_120 (by decide) (fun c_2 => ?_) (fun c_2 => ?_)
    · refine lv_iload_n hx hb dX11_partsAs_128 rfl (lv_at hl 3 rfl) ?_
      refine lv_iload_n hx hb dX11_partsAs_129 rfl (lv_at hl 0 rfl) ?_
      refine lv_idiv hx hb dX11_partsAs_130 (by assumption) ?_
      exact re_i hf hr hlk hw (by unfold prt; rw [if_neg c_1]) (by rw [show brk (nI q) (places q) 0 = 0 from if_neg c_1]) dX11_partsAs_131
    · refine lv_iload_n hx hb dX11_partsAs_123 rfl (lv_at hl 3 rfl) ?_
      refine lv_ineg hx hb dX11_partsAs_124 ?_
      refine lv_goto (tgt := 131) hx hb dX11_partsAs_125 (by decide) ?_
      exact re_i hf hr hlk hw (by unfold prt; rw [if_neg c_1, c_2, div_m1]) (by rw [show brk (nI q) (places q) 0 = 0 from if_neg c_1]) dX11_partsAs_131
  · refine lv_iconst (v := 1) hx hb dX11_partsAs_99 (by decide) ?_
    refine lv_goto (tgt := 104) hx hb dX11_partsAs_100 (by decide) ?_
    refine rp hf hk hw hinX11 tyX11 tyX11_ok nmX11 0 rfl rfl 23 (by decide) w_1 rfl (rfl) rfl (Nat.le_of_ble_eq_true rfl) dX11_partsAs_104 (W' := [cob oh 11 [.ref os, .ref ok, .ref ol, .ref ord, .int isk, .ref odd, .ref otp, .int (nI tpd), .ref olt, .int oat, .int obg, .int otk, .int ovl, .ref orw, .int (nI rmn), .ref oso, .ref osz, .ref oit, .ref oho, .ref ohe, .ref otr, .int (nI ((tr1 (tcd, trc) 12).1)), .int (nI q), .int 1], cin g os 51 (mR stp laws z cnt fogs arms kinds faiths places moved), cin g otr 30 ((tr1 (tcd, trc) 12).2)]) rfl (fun H locs hw => ?_)
    refine lv_aload_n hx hb dX11_partsAs_107 rfl (lv_at hl 1 rfl) ?_
    refine rg hf hk hw hinX11 0 rfl rfl 23 (by decide) w_1 rfl dX11_partsAs_108 ?_
    refine lv_if_eq (tgt := 118) hx hb dX11_partsAs_111 (by decide) (fun q => absurd q (by decide)) (fun _ => ?_)
    refine lv_iconst (v := 0) hx hb dX11_partsAs_114 (by decide) ?_
    refine lv_goto (tgt := 131) hx hb dX11_partsAs_115 (by decide) ?_
    exact re_i hf hr hlk hw (by unfold prt; rw [if_pos c_1]) (by rw [show brk (nI q) (places q) 0 = 1 from if_pos c_1]) dX11_partsAs_131
abbrev rmX11_partsAs_5_5 : Room := { frames := 2, cells := 0, slots := 0, locals := 45 }
set_option maxHeartbeats 4000000 in
set_option maxRecDepth 100000 in
theorem c_X11_partsAs_5_5 (l : Launch) (g : GG) (oh : Nat) (os : Nat) (ok : Nat) (ol : Nat) (ord : Nat) (odd : Nat) (otp : Nat) (olt : Nat) (orw : Nat) (oso : Nat) (osz : Nat) (oit : Nat) (oho : Nat) (ohe : Nat) (otr : Nat) (stp : Nat) (laws : Nat → Int32) (z : Int32) (cnt : Nat) (fogs : Nat → Int32) (arms : Nat → Int32) (kinds : Nat → Int32) (faiths : Nat → Int32) (places : Nat → Int32) (moved : Nat → Int32) (isk : Int32) (tpd : Nat) (oat : Int32) (obg : Int32) (otk : Int32) (ovl : Int32) (rmn : Nat) (tcd : Nat) (trc : Nat → Int32) (q : Nat) (x : Int32) (hq8 : q < 8) (hkq : kinds q = 5) (hbg : tcd ≤ 30) : mt l g yX11_partsAs wsX11_partsAs rmX11_partsAs_5_5 [.ref oh, .int 5, .int x] [cob oh 11 [.ref os, .ref ok, .ref ol, .ref ord, .int isk, .ref odd, .ref otp, .int (nI tpd), .ref olt, .int oat, .int obg, .int otk, .int ovl, .ref orw, .int (nI rmn), .ref oso, .ref osz, .ref oit, .ref oho, .ref ohe, .ref otr, .int (nI tcd), .int (nI q), .int 0], cin g os 51 (mR stp laws z cnt fogs arms kinds faiths places moved), cin g otr 30 trc] (some (.int (if brk (nI q) (places q) 0 = 0 then prt (nI q) (places q) x + (nI q * 3 - nI q) else 0))) [cob oh 11 [.ref os, .ref ok, .ref ol, .ref ord, .int isk, .ref odd, .ref otp, .int (nI tpd), .ref olt, .int oat, .int obg, .int otk, .int ovl, .ref orw, .int (nI rmn), .ref oso, .ref osz, .ref oit, .ref oho, .ref ohe, .ref otr, .int (nI (if brk (nI q) (places q) 0 = 0 then (tr1 (tr1 (tr1 (tcd, trc) 61) 12) 10) else (tr1 (tr1 (tcd, trc) 61) 12)).1), .int (nI q), .int (brk (nI q) (places q) 0)], cin g os 51 (mR stp laws z cnt fogs arms kinds faiths places moved), cin g otr 30 ((if brk (nI q) (places q) 0 = 0 then (tr1 (tr1 (tr1 (tcd, trc) 61) 12) 10) else (tr1 (tr1 (tcd, trc) 61) 12)).2)] := by
  refine mt.of (cc := cX11_partsAs) (nL := 4) (ret := (some .int)) (own := RX11) (by decide +kernel) rfl rfl (show ([oh, os, otr] : List Nat) = [oh, os, otr] from rfl) (Nat.le_of_ble_eq_true rfl) (fun p e s m below meth c hf hr hlk _ hk hst hw ls hl => ?_)
  have hx := hf.1
  have hb := hf.2.1
  have hts := hf.2.2.2.2
  have hl : lv_has ls 4 [(0, .ref oh), (1, .int 5), (2, .int x)] := hl
  have hinX11 : ∀ w ∈ u_ws RX11 TX11 24, w ∈ wsX11_partsAs := fun w h => List.mem_cons_of_mem _ (List.mem_append_right _ h)
  have w_0 : Cond.fieldLink RX11 253 "LightManModel" "isParted" "Z" ∈ wsX11_partsAs := List.mem_of_getElem? (i := 2) rfl
  have w_1 : Cond.fieldLink RX11 244 "LightManModel" "own" "I" ∈ wsX11_partsAs := List.mem_of_getElem? (i := 1) rfl
  refine lv_iload_n hx hb dX11_partsAs_0 rfl (lv_at hl 1 rfl) ?_
  refine lv_iconst (v := 3) hx hb dX11_partsAs_1 (by decide) ?_
  refine lv_icmp_ne (tgt := 25) hx hb dX11_partsAs_2 (by decide) (fun _ => ?_) (fun q => absurd q (by decide))
  refine lv_iload_n hx hb dX11_partsAs_25 rfl (lv_at hl 1 rfl) ?_
  refine lv_iconst (v := 5) hx hb dX11_partsAs_26 (by decide) ?_
  refine lv_icmp_ne (tgt := 66) hx hb dX11_partsAs_27 (by decide) (fun q => absurd (by decide) q) (fun _ => ?_)
  refine lv_aload_n hx hb dX11_partsAs_30 rfl (lv_at hl 0 rfl) ?_
  refine lv_bipush (v := 61) hx hb dX11_partsAs_31 (by decide) ?_
  refine mcV hf hk hst hw (c_X11_starts l g oh os ok ol ord odd otp olt orw oso osz oit oho ohe otr isk tpd oat obg otk ovl rmn tcd (nI q) 0 trc 61 (by first | omega | ((repeat apply tr1_le); dsimp only; omega))) (cwV 1 hts gX11_partsAs_X11_starts rfl rfl rfl hdV_X11_starts ⟨Nat.le_of_ble_eq_true rfl, Nat.le_of_ble_eq_true rfl⟩) [0, 2] rfl rfl 0 rfl rfl rfl hl.1 rfl (Nat.le_of_ble_eq_true rfl) dX11_partsAs_33 ⟨Nat.zero_le _, Nat.zero_le _⟩ (W' := [cob oh 11 [.ref os, .ref ok, .ref ol, .ref ord, .int isk, .ref odd, .ref otp, .int (nI tpd), .ref olt, .int oat, .int obg, .int otk, .int ovl, .ref orw, .int (nI rmn), .ref oso, .ref osz, .ref oit, .ref oho, .ref ohe, .ref otr, .int (nI (tr1 (tcd, trc) 61).1), .int (nI q), .int 0], cin g os 51 (mR stp laws z cnt fogs arms kinds faiths places moved), cin g otr 30 ((tr1 (tcd, trc) 61).2)]) rfl (fun H locs hw => ?_)
  refine lv_aload_n hx hb dX11_partsAs_36 rfl (lv_at hl 0 rfl) ?_
  refine lv_iconst (v := 0) hx hb dX11_partsAs_37 (by decide) ?_
  refine lv_iload_n hx hb dX11_partsAs_38 rfl (lv_at hl 2 rfl) ?_
  refine mcV hf hk hst hw (c_X11_partsAs_0_5 l g oh os ok ol ord odd otp olt orw oso osz oit oho ohe otr stp laws z cnt fogs arms kinds faiths places moved isk tpd oat obg otk ovl rmn ((tr1 (tcd, trc) 61).1) ((tr1 (tcd, trc) 61).2) q x (by omega) (hkq) (by first | omega | ((repeat apply tr1_le); dsimp only; omega))) (cwV 2 hts gX11_partsAs_X11_partsAs rfl rfl rfl hdV_X11_partsAs ⟨Nat.le_of_ble_eq_true rfl, Nat.le_of_ble_eq_true rfl⟩) [0, 1, 2] rfl rfl 0 rfl rfl rfl hl.1 rfl (Nat.le_of_ble_eq_true rfl) dX11_partsAs_39 ⟨Nat.zero_le _, Nat.zero_le _⟩ (W' := [cob oh 11 [.ref os, .ref ok, .ref ol, .ref ord, .int isk, .ref odd, .ref otp, .int (nI tpd), .ref olt, .int oat, .int obg, .int otk, .int ovl, .ref orw, .int (nI rmn), .ref oso, .ref osz, .ref oit, .ref oho, .ref ohe, .ref otr, .int (nI (tr1 (((tr1 (tcd, trc) 61).1), ((tr1 (tcd, trc) 61).2)) 12).1), .int (nI q), .int (brk (nI q) (places q) 0)], cin g os 51 (mR stp laws z cnt fogs arms kinds faiths places moved), cin g otr 30 ((tr1 (((tr1 (tcd, trc) 61).1), ((tr1 (tcd, trc) 61).2)) 12).2)]) rfl (fun H locs hw => ?_)
  refine lv_istore_n (lv' := [(3, .int (prt (nI q) (places q) x)), (0, .ref oh), (1, .int 5), (2, .int x)]) hx hb dX11_partsAs_42 rfl hl (by decide) rfl (fun ls hl => ?_)
  refine lv_aload_n hx hb dX11_partsAs_43 rfl (lv_at hl 1 rfl) ?_
  refine rg hf hk hw hinX11 0 rfl rfl 23 (by decide) w_0 rfl dX11_partsAs_44 ?_
  refine lv_if_eq (tgt := 54) hx hb dX11_partsAs_47 (by decide) (fun c_1 => ?_) (fun c_1 => ?_)
  · refine lv_iload_n hx hb dX11_partsAs_54 rfl (lv_at hl 0 rfl) ?_
    refine lv_aload_n hx hb dX11_partsAs_55 rfl (lv_at hl 1 rfl) ?_
    refine lv_iconst (v := 5) hx hb dX11_partsAs_56 (by decide) ?_
    refine lv_aload_n hx hb dX11_partsAs_57 rfl (lv_at hl 1 rfl) ?_
    refine rg hf hk hw hinX11 0 rfl rfl 22 (by decide) w_1 rfl dX11_partsAs_58 ?_
    refine mcV hf hk hst hw (c_X11_looksAs_5_5 l g oh os ok ol ord odd otp olt orw oso osz oit oho ohe otr stp laws z cnt fogs arms kinds faiths places moved isk tpd oat obg otk ovl rmn ((tr1 (((tr1 (tcd, trc) 61).1), ((tr1 (tcd, trc) 61).2)) 12).1) (brk (nI q) (places q) 0) ((tr1 (((tr1 (tcd, trc) 61).1), ((tr1 (tcd, trc) 61).2)) 12).2) q (nI q) (by omega) (hkq) (by first | omega | ((repeat apply tr1_le); dsimp only; omega))) (cwV 2 hts gX11_partsAs_X11_looksAs rfl rfl rfl hdV_X11_looksAs ⟨Nat.le_of_ble_eq_true rfl, Nat.le_of_ble_eq_true rfl⟩) [0, 1, 2] rfl rfl 0 rfl rfl rfl hl.1 rfl (Nat.le_of_ble_eq_true rfl) dX11_partsAs_61 ⟨Nat.zero_le _, Nat.zero_le _⟩ (W' := [cob oh 11 [.ref os, .ref ok, .ref ol, .ref ord, .int isk, .ref odd, .ref otp, .int (nI tpd), .ref olt, .int oat, .int obg, .int otk, .int ovl, .ref orw, .int (nI rmn), .ref oso, .ref osz, .ref oit, .ref oho, .ref ohe, .ref otr, .int (nI (tr1 (((tr1 (((tr1 (tcd, trc) 61).1), ((tr1 (tcd, trc) 61).2)) 12).1), ((tr1 (((tr1 (tcd, trc) 61).1), ((tr1 (tcd, trc) 61).2)) 12).2)) 10).1), .int (nI q), .int (brk (nI q) (places q) 0)], cin g os 51 (mR stp laws z cnt fogs arms kinds faiths places moved), cin g otr 30 ((tr1 (((tr1 (((tr1 (tcd, trc) 61).1), ((tr1 (tcd, trc) 61).2)) 12).1), ((tr1 (((tr1 (tcd, trc) 61).1), ((tr1 (tcd, trc) 61).2)) 12).2)) 10).2)]) rfl (fun H locs hw => ?_)
    refine lv_iadd hx hb dX11_partsAs_64 ?_
    exact re_i hf hr hlk hw (by rw [if_pos c_1]) (by simp only [if_pos c_1, pr_eta]) dX11_partsAs_65
  · refine lv_iconst (v := 0) hx hb dX11_partsAs_50 (by decide) ?_
    refine lv_goto (tgt := 65) hx hb dX11_partsAs_51 (by decide) ?_
    exact re_i hf hr hlk hw (by rw [if_neg c_1]) (by simp only [if_neg c_1, pr_eta]) dX11_partsAs_65
abbrev rmX11_comesAs_0_0 : Room := { frames := 3, cells := 0, slots := 0, locals := 66 }
set_option maxHeartbeats 4000000 in
set_option maxRecDepth 100000 in
theorem c_X11_comesAs_0_0 (l : Launch) (g : GG) (oh : Nat) (os : Nat) (ok : Nat) (ol : Nat) (ord : Nat) (odd : Nat) (otp : Nat) (olt : Nat) (orw : Nat) (oso : Nat) (osz : Nat) (oit : Nat) (oho : Nat) (ohe : Nat) (otr : Nat) (stp : Nat) (laws : Nat → Int32) (z : Int32) (cnt : Nat) (fogs : Nat → Int32) (arms : Nat → Int32) (kinds : Nat → Int32) (faiths : Nat → Int32) (places : Nat → Int32) (moved : Nat → Int32) (isk : Int32) (tpd : Nat) (oat : Int32) (obg : Int32) (otk : Int32) (ovl : Int32) (rmn : Nat) (tcd : Nat) (trc : Nat → Int32) (q : Nat) (x : Int32) (hq8 : q < 8) (hkq : kinds q = 0) (hbg : tcd ≤ 30) : mt l g yX11_comesAs wsX11_comesAs rmX11_comesAs_0_0 [.ref oh, .int 0, .int x] [cob oh 11 [.ref os, .ref ok, .ref ol, .ref ord, .int isk, .ref odd, .ref otp, .int (nI tpd), .ref olt, .int oat, .int obg, .int otk, .int ovl, .ref orw, .int (nI rmn), .ref oso, .ref osz, .ref oit, .ref oho, .ref ohe, .ref otr, .int (nI tcd), .int (nI q), .int 0], cin g os 51 (mR stp laws z cnt fogs arms kinds faiths places moved), cin g otr 30 trc] (some (.int ((((x * 3) - (nI q)) + ((places q) * 6)) ^^^ 200))) [cob oh 11 [.ref os, .ref ok, .ref ol, .ref ord, .int isk, .ref odd, .ref otp, .int (nI tpd), .ref olt, .int oat, .int obg, .int otk, .int ovl, .ref orw, .int (nI rmn), .ref oso, .ref osz, .ref oit, .ref oho, .ref ohe, .ref otr, .int (nI (tr1 (tr1 (tr1 (tcd, trc) 13) 11) 10).1), .int (nI q), .int 0], cin g os 51 (mR stp laws z cnt fogs arms kinds faiths places moved), cin g otr 30 ((tr1 (tr1 (tr1 (tcd, trc) 13) 11) 10).2)] := by
  refine mt.of (cc := cX11_comesAs) (nL := 4) (ret := (some .int)) (own := RX11) (by decide +kernel) rfl rfl (show ([oh, os, otr] : List Nat) = [oh, os, otr] from rfl) (Nat.le_of_ble_eq_true rfl) (fun p e s m below meth c hf hr hlk _ hk hst hw ls hl => ?_)
  have hx := hf.1
  have hb := hf.2.1
  have hts := hf.2.2.2.2
  have hl : lv_has ls 4 [(0, .ref oh), (1, .int 0), (2, .int x)] := hl
  have hinX11 : ∀ w ∈ u_ws RX11 TX11 24, w ∈ wsX11_comesAs := fun w h => List.mem_cons_of_mem _ (List.mem_append_right _ h)
  have w_0 : Cond.fieldLink RX11 244 "LightManModel" "own" "I" ∈ wsX11_comesAs := List.mem_of_getElem? (i := 1) rfl
  refine lv_iload_n hx hb dX11_comesAs_0 rfl (lv_at hl 1 rfl) ?_
  refine lv_iconst (v := 2) hx hb dX11_comesAs_1 (by decide) ?_
  refine lv_icmp_eq (tgt := 10) hx hb dX11_comesAs_2 (by decide) (fun q => absurd q (by decide)) (fun _ => ?_)
  refine lv_iload_n hx hb dX11_comesAs_5 rfl (lv_at hl 1 rfl) ?_
  refine lv_iconst (v := 4) hx hb dX11_comesAs_6 (by decide) ?_
  refine lv_icmp_ne (tgt := 43) hx hb dX11_comesAs_7 (by decide) (fun _ => ?_) (fun q => absurd q (by decide))
  refine lv_iload_n hx hb dX11_comesAs_43 rfl (lv_at hl 1 rfl) ?_
  refine lv_iconst (v := 5) hx hb dX11_comesAs_44 (by decide) ?_
  refine lv_icmp_ne (tgt := 64) hx hb dX11_comesAs_45 (by decide) (fun _ => ?_) (fun q => absurd q (by decide))
  refine lv_aload_n hx hb dX11_comesAs_64 rfl (lv_at hl 0 rfl) ?_
  refine lv_bipush (v := 13) hx hb dX11_comesAs_65 (by decide) ?_
  refine mcV hf hk hst hw (c_X11_starts l g oh os ok ol ord odd otp olt orw oso osz oit oho ohe otr isk tpd oat obg otk ovl rmn tcd (nI q) 0 trc 13 (by first | omega | ((repeat apply tr1_le); dsimp only; omega))) (cwV 1 hts gX11_comesAs_X11_starts rfl rfl rfl hdV_X11_starts ⟨Nat.le_of_ble_eq_true rfl, Nat.le_of_ble_eq_true rfl⟩) [0, 2] rfl rfl 0 rfl rfl rfl hl.1 rfl (Nat.le_of_ble_eq_true rfl) dX11_comesAs_67 ⟨Nat.zero_le _, Nat.zero_le _⟩ (W' := [cob oh 11 [.ref os, .ref ok, .ref ol, .ref ord, .int isk, .ref odd, .ref otp, .int (nI tpd), .ref olt, .int oat, .int obg, .int otk, .int ovl, .ref orw, .int (nI rmn), .ref oso, .ref osz, .ref oit, .ref oho, .ref ohe, .ref otr, .int (nI (tr1 (tcd, trc) 13).1), .int (nI q), .int 0], cin g os 51 (mR stp laws z cnt fogs arms kinds faiths places moved), cin g otr 30 ((tr1 (tcd, trc) 13).2)]) rfl (fun H locs hw => ?_)
  refine lv_aload_n hx hb dX11_comesAs_70 rfl (lv_at hl 0 rfl) ?_
  refine lv_aload_n hx hb dX11_comesAs_71 rfl (lv_at hl 0 rfl) ?_
  refine lv_aload_n hx hb dX11_comesAs_72 rfl (lv_at hl 0 rfl) ?_
  refine rg hf hk hw hinX11 0 rfl rfl 22 (by decide) w_0 rfl dX11_comesAs_73 ?_
  refine lv_iconst (v := 0) hx hb dX11_comesAs_76 (by decide) ?_
  refine mcV hf hk hst hw (c_X11_get0 l g oh os ok ol ord odd otp olt orw oso osz oit oho ohe otr stp laws z cnt fogs arms kinds faiths places moved isk tpd oat obg otk ovl rmn ((tr1 (tcd, trc) 13).1) (nI q) 0 q (by omega)) (cwV 2 hts gX11_comesAs_X11_get rfl rfl rfl hdV_X11_get ⟨Nat.le_of_ble_eq_true rfl, Nat.le_of_ble_eq_true rfl⟩) [0, 1] rfl rfl 0 rfl rfl rfl hl.1 rfl (Nat.le_of_ble_eq_true rfl) dX11_comesAs_77 ⟨Nat.zero_le _, Nat.zero_le _⟩ (W' := [cob oh 11 [.ref os, .ref ok, .ref ol, .ref ord, .int isk, .ref odd, .ref otp, .int (nI tpd), .ref olt, .int oat, .int obg, .int otk, .int ovl, .ref orw, .int (nI rmn), .ref oso, .ref osz, .ref oit, .ref oho, .ref ohe, .ref otr, .int (nI ((tr1 (tcd, trc) 13).1)), .int (nI q), .int 0], cin g os 51 (mR stp laws z cnt fogs arms kinds faiths places moved), cin g otr 30 ((tr1 (tcd, trc) 13).2)]) rfl (fun H locs hw => ?_)
  refine lv_tope (y := 0) (hkq) ?_
  refine lv_iload_n hx hb dX11_comesAs_80 rfl (lv_at hl 2 rfl) ?_
  refine mcV hf hk hst hw (c_X11_walksAs_0_0 l g oh os ok ol ord odd otp olt orw oso osz oit oho ohe otr stp laws z cnt fogs arms kinds faiths places moved isk tpd oat obg otk ovl rmn ((tr1 (tcd, trc) 13).1) 0 ((tr1 (tcd, trc) 13).2) q x (by omega) (hkq) (by first | omega | ((repeat apply tr1_le); dsimp only; omega))) (cwV 2 hts gX11_comesAs_X11_walksAs rfl rfl rfl hdV_X11_walksAs ⟨Nat.le_of_ble_eq_true rfl, Nat.le_of_ble_eq_true rfl⟩) [0, 1, 2] rfl rfl 0 rfl rfl rfl hl.1 rfl (Nat.le_of_ble_eq_true rfl) dX11_comesAs_81 ⟨Nat.zero_le _, Nat.zero_le _⟩ (W' := [cob oh 11 [.ref os, .ref ok, .ref ol, .ref ord, .int isk, .ref odd, .ref otp, .int (nI tpd), .ref olt, .int oat, .int obg, .int otk, .int ovl, .ref orw, .int (nI rmn), .ref oso, .ref osz, .ref oit, .ref oho, .ref ohe, .ref otr, .int (nI (tr1 (tr1 (((tr1 (tcd, trc) 13).1), ((tr1 (tcd, trc) 13).2)) 11) 10).1), .int (nI q), .int 0], cin g os 51 (mR stp laws z cnt fogs arms kinds faiths places moved), cin g otr 30 ((tr1 (tr1 (((tr1 (tcd, trc) 13).1), ((tr1 (tcd, trc) 13).2)) 11) 10).2)]) rfl (fun H locs hw => ?_)
  refine lv_sipush (v := 200) hx hb dX11_comesAs_84 (by decide) ?_
  refine lv_ixor hx hb dX11_comesAs_87 ?_
  exact re_i hf hr hlk hw (rfl) (by simp only [pr_eta]) dX11_comesAs_88
abbrev rmX11_comesAs_1_1 : Room := { frames := 4, cells := 0, slots := 0, locals := 89 }
set_option maxHeartbeats 4000000 in
set_option maxRecDepth 100000 in
theorem c_X11_comesAs_1_1 (l : Launch) (g : GG) (oh : Nat) (os : Nat) (ok : Nat) (ol : Nat) (ord : Nat) (odd : Nat) (otp : Nat) (olt : Nat) (orw : Nat) (oso : Nat) (osz : Nat) (oit : Nat) (oho : Nat) (ohe : Nat) (otr : Nat) (stp : Nat) (laws : Nat → Int32) (z : Int32) (cnt : Nat) (fogs : Nat → Int32) (arms : Nat → Int32) (kinds : Nat → Int32) (faiths : Nat → Int32) (places : Nat → Int32) (moved : Nat → Int32) (isk : Int32) (tpd : Nat) (oat : Int32) (obg : Int32) (otk : Int32) (ovl : Int32) (rmn : Nat) (tcd : Nat) (trc : Nat → Int32) (q : Nat) (x : Int32) (hq8 : q < 8) (hkq : kinds q = 1) (hbg : tcd ≤ 30) : mt l g yX11_comesAs wsX11_comesAs rmX11_comesAs_1_1 [.ref oh, .int 1, .int x] [cob oh 11 [.ref os, .ref ok, .ref ol, .ref ord, .int isk, .ref odd, .ref otp, .int (nI tpd), .ref olt, .int oat, .int obg, .int otk, .int ovl, .ref orw, .int (nI rmn), .ref oso, .ref osz, .ref oit, .ref oho, .ref ohe, .ref otr, .int (nI tcd), .int (nI q), .int 0], cin g os 51 (mR stp laws z cnt fogs arms kinds faiths places moved), cin g otr 30 trc] (some (.int ((-(((x * 3) - (nI q)) + ((places q) * 6))) ^^^ 200))) [cob oh 11 [.ref os, .ref ok, .ref ol, .ref ord, .int isk, .ref odd, .ref otp, .int (nI tpd), .ref olt, .int oat, .int obg, .int otk, .int ovl, .ref orw, .int (nI rmn), .ref oso, .ref osz, .ref oit, .ref oho, .ref ohe, .ref otr, .int (nI (tr1 (tr1 (tr1 (tr1 (tcd, trc) 13) 20) 11) 10).1), .int (nI q), .int 0], cin g os 51 (mR stp laws z cnt fogs arms kinds faiths places moved), cin g otr 30 ((tr1 (tr1 (tr1 (tr1 (tcd, trc) 13) 20) 11) 10).2)] := by
  refine mt.of (cc := cX11_comesAs) (nL := 4) (ret := (some .int)) (own := RX11) (by decide +kernel) rfl rfl (show ([oh, os, otr] : List Nat) = [oh, os, otr] from rfl) (Nat.le_of_ble_eq_true rfl) (fun p e s m below meth c hf hr hlk _ hk hst hw ls hl => ?_)
  have hx := hf.1
  have hb := hf.2.1
  have hts := hf.2.2.2.2
  have hl : lv_has ls 4 [(0, .ref oh), (1, .int 1), (2, .int x)] := hl
  have hinX11 : ∀ w ∈ u_ws RX11 TX11 24, w ∈ wsX11_comesAs := fun w h => List.mem_cons_of_mem _ (List.mem_append_right _ h)
  have w_0 : Cond.fieldLink RX11 244 "LightManModel" "own" "I" ∈ wsX11_comesAs := List.mem_of_getElem? (i := 1) rfl
  refine lv_iload_n hx hb dX11_comesAs_0 rfl (lv_at hl 1 rfl) ?_
  refine lv_iconst (v := 2) hx hb dX11_comesAs_1 (by decide) ?_
  refine lv_icmp_eq (tgt := 10) hx hb dX11_comesAs_2 (by decide) (fun q => absurd q (by decide)) (fun _ => ?_)
  refine lv_iload_n hx hb dX11_comesAs_5 rfl (lv_at hl 1 rfl) ?_
  refine lv_iconst (v := 4) hx hb dX11_comesAs_6 (by decide) ?_
  refine lv_icmp_ne (tgt := 43) hx hb dX11_comesAs_7 (by decide) (fun _ => ?_) (fun q => absurd q (by decide))
  refine lv_iload_n hx hb dX11_comesAs_43 rfl (lv_at hl 1 rfl) ?_
  refine lv_iconst (v := 5) hx hb dX11_comesAs_44 (by decide) ?_
  refine lv_icmp_ne (tgt := 64) hx hb dX11_comesAs_45 (by decide) (fun _ => ?_) (fun q => absurd q (by decide))
  refine lv_aload_n hx hb dX11_comesAs_64 rfl (lv_at hl 0 rfl) ?_
  refine lv_bipush (v := 13) hx hb dX11_comesAs_65 (by decide) ?_
  refine mcV hf hk hst hw (c_X11_starts l g oh os ok ol ord odd otp olt orw oso osz oit oho ohe otr isk tpd oat obg otk ovl rmn tcd (nI q) 0 trc 13 (by first | omega | ((repeat apply tr1_le); dsimp only; omega))) (cwV 1 hts gX11_comesAs_X11_starts rfl rfl rfl hdV_X11_starts ⟨Nat.le_of_ble_eq_true rfl, Nat.le_of_ble_eq_true rfl⟩) [0, 2] rfl rfl 0 rfl rfl rfl hl.1 rfl (Nat.le_of_ble_eq_true rfl) dX11_comesAs_67 ⟨Nat.zero_le _, Nat.zero_le _⟩ (W' := [cob oh 11 [.ref os, .ref ok, .ref ol, .ref ord, .int isk, .ref odd, .ref otp, .int (nI tpd), .ref olt, .int oat, .int obg, .int otk, .int ovl, .ref orw, .int (nI rmn), .ref oso, .ref osz, .ref oit, .ref oho, .ref ohe, .ref otr, .int (nI (tr1 (tcd, trc) 13).1), .int (nI q), .int 0], cin g os 51 (mR stp laws z cnt fogs arms kinds faiths places moved), cin g otr 30 ((tr1 (tcd, trc) 13).2)]) rfl (fun H locs hw => ?_)
  refine lv_aload_n hx hb dX11_comesAs_70 rfl (lv_at hl 0 rfl) ?_
  refine lv_aload_n hx hb dX11_comesAs_71 rfl (lv_at hl 0 rfl) ?_
  refine lv_aload_n hx hb dX11_comesAs_72 rfl (lv_at hl 0 rfl) ?_
  refine rg hf hk hw hinX11 0 rfl rfl 22 (by decide) w_0 rfl dX11_comesAs_73 ?_
  refine lv_iconst (v := 0) hx hb dX11_comesAs_76 (by decide) ?_
  refine mcV hf hk hst hw (c_X11_get0 l g oh os ok ol ord odd otp olt orw oso osz oit oho ohe otr stp laws z cnt fogs arms kinds faiths places moved isk tpd oat obg otk ovl rmn ((tr1 (tcd, trc) 13).1) (nI q) 0 q (by omega)) (cwV 2 hts gX11_comesAs_X11_get rfl rfl rfl hdV_X11_get ⟨Nat.le_of_ble_eq_true rfl, Nat.le_of_ble_eq_true rfl⟩) [0, 1] rfl rfl 0 rfl rfl rfl hl.1 rfl (Nat.le_of_ble_eq_true rfl) dX11_comesAs_77 ⟨Nat.zero_le _, Nat.zero_le _⟩ (W' := [cob oh 11 [.ref os, .ref ok, .ref ol, .ref ord, .int isk, .ref odd, .ref otp, .int (nI tpd), .ref olt, .int oat, .int obg, .int otk, .int ovl, .ref orw, .int (nI rmn), .ref oso, .ref osz, .ref oit, .ref oho, .ref ohe, .ref otr, .int (nI ((tr1 (tcd, trc) 13).1)), .int (nI q), .int 0], cin g os 51 (mR stp laws z cnt fogs arms kinds faiths places moved), cin g otr 30 ((tr1 (tcd, trc) 13).2)]) rfl (fun H locs hw => ?_)
  refine lv_tope (y := 1) (hkq) ?_
  refine lv_iload_n hx hb dX11_comesAs_80 rfl (lv_at hl 2 rfl) ?_
  refine mcV hf hk hst hw (c_X11_walksAs_1_1 l g oh os ok ol ord odd otp olt orw oso osz oit oho ohe otr stp laws z cnt fogs arms kinds faiths places moved isk tpd oat obg otk ovl rmn ((tr1 (tcd, trc) 13).1) 0 ((tr1 (tcd, trc) 13).2) q x (by omega) (hkq) (by first | omega | ((repeat apply tr1_le); dsimp only; omega))) (cwV 2 hts gX11_comesAs_X11_walksAs rfl rfl rfl hdV_X11_walksAs ⟨Nat.le_of_ble_eq_true rfl, Nat.le_of_ble_eq_true rfl⟩) [0, 1, 2] rfl rfl 0 rfl rfl rfl hl.1 rfl (Nat.le_of_ble_eq_true rfl) dX11_comesAs_81 ⟨Nat.zero_le _, Nat.zero_le _⟩ (W' := [cob oh 11 [.ref os, .ref ok, .ref ol, .ref ord, .int isk, .ref odd, .ref otp, .int (nI tpd), .ref olt, .int oat, .int obg, .int otk, .int ovl, .ref orw, .int (nI rmn), .ref oso, .ref osz, .ref oit, .ref oho, .ref ohe, .ref otr, .int (nI (tr1 (tr1 (tr1 (((tr1 (tcd, trc) 13).1), ((tr1 (tcd, trc) 13).2)) 20) 11) 10).1), .int (nI q), .int 0], cin g os 51 (mR stp laws z cnt fogs arms kinds faiths places moved), cin g otr 30 ((tr1 (tr1 (tr1 (((tr1 (tcd, trc) 13).1), ((tr1 (tcd, trc) 13).2)) 20) 11) 10).2)]) rfl (fun H locs hw => ?_)
  refine lv_sipush (v := 200) hx hb dX11_comesAs_84 (by decide) ?_
  refine lv_ixor hx hb dX11_comesAs_87 ?_
  exact re_i hf hr hlk hw (rfl) (by simp only [pr_eta]) dX11_comesAs_88
abbrev rmX11_comesAs_0_2 : Room := { frames := 4, cells := 0, slots := 0, locals := 88 }
set_option maxHeartbeats 4000000 in
set_option maxRecDepth 100000 in
theorem c_X11_comesAs_0_2 (l : Launch) (g : GG) (oh : Nat) (os : Nat) (ok : Nat) (ol : Nat) (ord : Nat) (odd : Nat) (otp : Nat) (olt : Nat) (orw : Nat) (oso : Nat) (osz : Nat) (oit : Nat) (oho : Nat) (ohe : Nat) (otr : Nat) (stp : Nat) (laws : Nat → Int32) (z : Int32) (cnt : Nat) (fogs : Nat → Int32) (arms : Nat → Int32) (kinds : Nat → Int32) (faiths : Nat → Int32) (places : Nat → Int32) (moved : Nat → Int32) (isk : Int32) (tpd : Nat) (oat : Int32) (obg : Int32) (otk : Int32) (ovl : Int32) (rmn : Nat) (tcd : Nat) (trc : Nat → Int32) (q : Nat) (x : Int32) (hq8 : q < 8) (hkq : kinds q = 2) (hbg : tcd ≤ 30) : mt l g yX11_comesAs wsX11_comesAs rmX11_comesAs_0_2 [.ref oh, .int 0, .int x] [cob oh 11 [.ref os, .ref ok, .ref ol, .ref ord, .int isk, .ref odd, .ref otp, .int (nI tpd), .ref olt, .int oat, .int obg, .int otk, .int ovl, .ref orw, .int (nI rmn), .ref oso, .ref osz, .ref oit, .ref oho, .ref ohe, .ref otr, .int (nI tcd), .int (nI q), .int 0], cin g os 51 (mR stp laws z cnt fogs arms kinds faiths places moved), cin g otr 30 trc] (some (.int (((((x * 3) - (nI q)) * 2) + ((places q) * 6)) ^^^ 200))) [cob oh 11 [.ref os, .ref ok, .ref ol, .ref ord, .int isk, .ref odd, .ref otp, .int (nI tpd), .ref olt, .int oat, .int obg, .int otk, .int ovl, .ref orw, .int (nI rmn), .ref oso, .ref osz, .ref oit, .ref oho, .ref ohe, .ref otr, .int (nI (tr1 (tr1 (tr1 (tr1 (tcd, trc) 13) 11) 30) 10).1), .int (nI q), .int 0], cin g os 51 (mR stp laws z cnt fogs arms kinds faiths places moved), cin g otr 30 ((tr1 (tr1 (tr1 (tr1 (tcd, trc) 13) 11) 30) 10).2)] := by
  refine mt.of (cc := cX11_comesAs) (nL := 4) (ret := (some .int)) (own := RX11) (by decide +kernel) rfl rfl (show ([oh, os, otr] : List Nat) = [oh, os, otr] from rfl) (Nat.le_of_ble_eq_true rfl) (fun p e s m below meth c hf hr hlk _ hk hst hw ls hl => ?_)
  have hx := hf.1
  have hb := hf.2.1
  have hts := hf.2.2.2.2
  have hl : lv_has ls 4 [(0, .ref oh), (1, .int 0), (2, .int x)] := hl
  have hinX11 : ∀ w ∈ u_ws RX11 TX11 24, w ∈ wsX11_comesAs := fun w h => List.mem_cons_of_mem _ (List.mem_append_right _ h)
  have w_0 : Cond.fieldLink RX11 244 "LightManModel" "own" "I" ∈ wsX11_comesAs := List.mem_of_getElem? (i := 1) rfl
  refine lv_iload_n hx hb dX11_comesAs_0 rfl (lv_at hl 1 rfl) ?_
  refine lv_iconst (v := 2) hx hb dX11_comesAs_1 (by decide) ?_
  refine lv_icmp_eq (tgt := 10) hx hb dX11_comesAs_2 (by decide) (fun q => absurd q (by decide)) (fun _ => ?_)
  refine lv_iload_n hx hb dX11_comesAs_5 rfl (lv_at hl 1 rfl) ?_
  refine lv_iconst (v := 4) hx hb dX11_comesAs_6 (by decide) ?_
  refine lv_icmp_ne (tgt := 43) hx hb dX11_comesAs_7 (by decide) (fun _ => ?_) (fun q => absurd q (by decide))
  refine lv_iload_n hx hb dX11_comesAs_43 rfl (lv_at hl 1 rfl) ?_
  refine lv_iconst (v := 5) hx hb dX11_comesAs_44 (by decide) ?_
  refine lv_icmp_ne (tgt := 64) hx hb dX11_comesAs_45 (by decide) (fun _ => ?_) (fun q => absurd q (by decide))
  refine lv_aload_n hx hb dX11_comesAs_64 rfl (lv_at hl 0 rfl) ?_
  refine lv_bipush (v := 13) hx hb dX11_comesAs_65 (by decide) ?_
  refine mcV hf hk hst hw (c_X11_starts l g oh os ok ol ord odd otp olt orw oso osz oit oho ohe otr isk tpd oat obg otk ovl rmn tcd (nI q) 0 trc 13 (by first | omega | ((repeat apply tr1_le); dsimp only; omega))) (cwV 1 hts gX11_comesAs_X11_starts rfl rfl rfl hdV_X11_starts ⟨Nat.le_of_ble_eq_true rfl, Nat.le_of_ble_eq_true rfl⟩) [0, 2] rfl rfl 0 rfl rfl rfl hl.1 rfl (Nat.le_of_ble_eq_true rfl) dX11_comesAs_67 ⟨Nat.zero_le _, Nat.zero_le _⟩ (W' := [cob oh 11 [.ref os, .ref ok, .ref ol, .ref ord, .int isk, .ref odd, .ref otp, .int (nI tpd), .ref olt, .int oat, .int obg, .int otk, .int ovl, .ref orw, .int (nI rmn), .ref oso, .ref osz, .ref oit, .ref oho, .ref ohe, .ref otr, .int (nI (tr1 (tcd, trc) 13).1), .int (nI q), .int 0], cin g os 51 (mR stp laws z cnt fogs arms kinds faiths places moved), cin g otr 30 ((tr1 (tcd, trc) 13).2)]) rfl (fun H locs hw => ?_)
  refine lv_aload_n hx hb dX11_comesAs_70 rfl (lv_at hl 0 rfl) ?_
  refine lv_aload_n hx hb dX11_comesAs_71 rfl (lv_at hl 0 rfl) ?_
  refine lv_aload_n hx hb dX11_comesAs_72 rfl (lv_at hl 0 rfl) ?_
  refine rg hf hk hw hinX11 0 rfl rfl 22 (by decide) w_0 rfl dX11_comesAs_73 ?_
  refine lv_iconst (v := 0) hx hb dX11_comesAs_76 (by decide) ?_
  refine mcV hf hk hst hw (c_X11_get0 l g oh os ok ol ord odd otp olt orw oso osz oit oho ohe otr stp laws z cnt fogs arms kinds faiths places moved isk tpd oat obg otk ovl rmn ((tr1 (tcd, trc) 13).1) (nI q) 0 q (by omega)) (cwV 2 hts gX11_comesAs_X11_get rfl rfl rfl hdV_X11_get ⟨Nat.le_of_ble_eq_true rfl, Nat.le_of_ble_eq_true rfl⟩) [0, 1] rfl rfl 0 rfl rfl rfl hl.1 rfl (Nat.le_of_ble_eq_true rfl) dX11_comesAs_77 ⟨Nat.zero_le _, Nat.zero_le _⟩ (W' := [cob oh 11 [.ref os, .ref ok, .ref ol, .ref ord, .int isk, .ref odd, .ref otp, .int (nI tpd), .ref olt, .int oat, .int obg, .int otk, .int ovl, .ref orw, .int (nI rmn), .ref oso, .ref osz, .ref oit, .ref oho, .ref ohe, .ref otr, .int (nI ((tr1 (tcd, trc) 13).1)), .int (nI q), .int 0], cin g os 51 (mR stp laws z cnt fogs arms kinds faiths places moved), cin g otr 30 ((tr1 (tcd, trc) 13).2)]) rfl (fun H locs hw => ?_)
  refine lv_tope (y := 2) (hkq) ?_
  refine lv_iload_n hx hb dX11_comesAs_80 rfl (lv_at hl 2 rfl) ?_
  refine mcV hf hk hst hw (c_X11_walksAs_2_2 l g oh os ok ol ord odd otp olt orw oso osz oit oho ohe otr stp laws z cnt fogs arms kinds faiths places moved isk tpd oat obg otk ovl rmn ((tr1 (tcd, trc) 13).1) 0 ((tr1 (tcd, trc) 13).2) q x (by omega) (hkq) (by first | omega | ((repeat apply tr1_le); dsimp only; omega))) (cwV 2 hts gX11_comesAs_X11_walksAs rfl rfl rfl hdV_X11_walksAs ⟨Nat.le_of_ble_eq_true rfl, Nat.le_of_ble_eq_true rfl⟩) [0, 1, 2] rfl rfl 0 rfl rfl rfl hl.1 rfl (Nat.le_of_ble_eq_true rfl) dX11_comesAs_81 ⟨Nat.zero_le _, Nat.zero_le _⟩ (W' := [cob oh 11 [.ref os, .ref ok, .ref ol, .ref ord, .int isk, .ref odd, .ref otp, .int (nI tpd), .ref olt, .int oat, .int obg, .int otk, .int ovl, .ref orw, .int (nI rmn), .ref oso, .ref osz, .ref oit, .ref oho, .ref ohe, .ref otr, .int (nI (tr1 (tr1 (tr1 (((tr1 (tcd, trc) 13).1), ((tr1 (tcd, trc) 13).2)) 11) 30) 10).1), .int (nI q), .int 0], cin g os 51 (mR stp laws z cnt fogs arms kinds faiths places moved), cin g otr 30 ((tr1 (tr1 (tr1 (((tr1 (tcd, trc) 13).1), ((tr1 (tcd, trc) 13).2)) 11) 30) 10).2)]) rfl (fun H locs hw => ?_)
  refine lv_sipush (v := 200) hx hb dX11_comesAs_84 (by decide) ?_
  refine lv_ixor hx hb dX11_comesAs_87 ?_
  exact re_i hf hr hlk hw (rfl) (by simp only [pr_eta]) dX11_comesAs_88
theorem hdV_X11_comesAs : yX11_comesAs.cls = RX11 ∧ yX11_comesAs.cls ≠ "java/lang/invoke/MethodHandle" ∧ yX11_comesAs.cls ≠ "java/lang/invoke/VarHandle" ∧ (parseMethodDescriptor yX11_comesAs.desc).map (fun d => d.parameters.length) = some 2 := by decide +kernel
abbrev rmX11_comesAs_2_2 : Room := { frames := 5, cells := 0, slots := 0, locals := 111 }
set_option maxHeartbeats 4000000 in
set_option maxRecDepth 100000 in
theorem c_X11_comesAs_2_2 (l : Launch) (g : GG) (oh : Nat) (os : Nat) (ok : Nat) (ol : Nat) (ord : Nat) (odd : Nat) (otp : Nat) (olt : Nat) (orw : Nat) (oso : Nat) (osz : Nat) (oit : Nat) (oho : Nat) (ohe : Nat) (otr : Nat) (stp : Nat) (laws : Nat → Int32) (z : Int32) (cnt : Nat) (fogs : Nat → Int32) (arms : Nat → Int32) (kinds : Nat → Int32) (faiths : Nat → Int32) (places : Nat → Int32) (moved : Nat → Int32) (isk : Int32) (tpd : Nat) (oat : Int32) (obg : Int32) (otk : Int32) (ovl : Int32) (rmn : Nat) (tcd : Nat) (trc : Nat → Int32) (q : Nat) (x : Int32) (hq8 : q < 8) (hkq : kinds q = 2) (hbg : tcd ≤ 30) : mt l g yX11_comesAs wsX11_comesAs rmX11_comesAs_2_2 [.ref oh, .int 2, .int x] [cob oh 11 [.ref os, .ref ok, .ref ol, .ref ord, .int isk, .ref odd, .ref otp, .int (nI tpd), .ref olt, .int oat, .int obg, .int otk, .int ovl, .ref orw, .int (nI rmn), .ref oso, .ref osz, .ref oit, .ref oho, .ref ohe, .ref otr, .int (nI tcd), .int (nI q), .int 0], cin g os 51 (mR stp laws z cnt fogs arms kinds faiths places moved), cin g otr 30 trc] (some (.int ((((((x * 3) - (nI q)) * 2) + ((places q) * 6)) ^^^ 200) + (prt (nI q) (places q) (nI q))))) [cob oh 11 [.ref os, .ref ok, .ref ol, .ref ord, .int isk, .ref odd, .ref otp, .int (nI tpd), .ref olt, .int oat, .int obg, .int otk, .int ovl, .ref orw, .int (nI rmn), .ref oso, .ref osz, .ref oit, .ref oho, .ref ohe, .ref otr, .int (nI (tr1 (tr1 (tr1 (tr1 (tr1 (tr1 (tcd, trc) 31) 13) 11) 30) 10) 12).1), .int (nI q), .int (brk (nI q) (places q) 0)], cin g os 51 (mR stp laws z cnt fogs arms kinds faiths places moved), cin g otr 30 ((tr1 (tr1 (tr1 (tr1 (tr1 (tr1 (tcd, trc) 31) 13) 11) 30) 10) 12).2)] := by
  refine mt.of (cc := cX11_comesAs) (nL := 4) (ret := (some .int)) (own := RX11) (by decide +kernel) rfl rfl (show ([oh, os, otr] : List Nat) = [oh, os, otr] from rfl) (Nat.le_of_ble_eq_true rfl) (fun p e s m below meth c hf hr hlk _ hk hst hw ls hl => ?_)
  have hx := hf.1
  have hb := hf.2.1
  have hts := hf.2.2.2.2
  have hl : lv_has ls 4 [(0, .ref oh), (1, .int 2), (2, .int x)] := hl
  have hinX11 : ∀ w ∈ u_ws RX11 TX11 24, w ∈ wsX11_comesAs := fun w h => List.mem_cons_of_mem _ (List.mem_append_right _ h)
  have w_0 : Cond.fieldLink RX11 244 "LightManModel" "own" "I" ∈ wsX11_comesAs := List.mem_of_getElem? (i := 1) rfl
  refine lv_iload_n hx hb dX11_comesAs_0 rfl (lv_at hl 1 rfl) ?_
  refine lv_iconst (v := 2) hx hb dX11_comesAs_1 (by decide) ?_
  refine lv_icmp_eq (tgt := 10) hx hb dX11_comesAs_2 (by decide) (fun _ => ?_) (fun q => absurd (by decide) q)
  refine lv_aload_n hx hb dX11_comesAs_10 rfl (lv_at hl 0 rfl) ?_
  refine lv_bipush (v := 31) hx hb dX11_comesAs_11 (by decide) ?_
  refine mcV hf hk hst hw (c_X11_starts l g oh os ok ol ord odd otp olt orw oso osz oit oho ohe otr isk tpd oat obg otk ovl rmn tcd (nI q) 0 trc 31 (by first | omega | ((repeat apply tr1_le); dsimp only; omega))) (cwV 1 hts gX11_comesAs_X11_starts rfl rfl rfl hdV_X11_starts ⟨Nat.le_of_ble_eq_true rfl, Nat.le_of_ble_eq_true rfl⟩) [0, 2] rfl rfl 0 rfl rfl rfl hl.1 rfl (Nat.le_of_ble_eq_true rfl) dX11_comesAs_13 ⟨Nat.zero_le _, Nat.zero_le _⟩ (W' := [cob oh 11 [.ref os, .ref ok, .ref ol, .ref ord, .int isk, .ref odd, .ref otp, .int (nI tpd), .ref olt, .int oat, .int obg, .int otk, .int ovl, .ref orw, .int (nI rmn), .ref oso, .ref osz, .ref oit, .ref oho, .ref ohe, .ref otr, .int (nI (tr1 (tcd, trc) 31).1), .int (nI q), .int 0], cin g os 51 (mR stp laws z cnt fogs arms kinds faiths places moved), cin g otr 30 ((tr1 (tcd, trc) 31).2)]) rfl (fun H locs hw => ?_)
  refine lv_aload_n hx hb dX11_comesAs_16 rfl (lv_at hl 0 rfl) ?_
  refine lv_iconst (v := 0) hx hb dX11_comesAs_17 (by decide) ?_
  refine lv_iload_n hx hb dX11_comesAs_18 rfl (lv_at hl 2 rfl) ?_
  refine mcV hf hk hst hw (c_X11_comesAs_0_2 l g oh os ok ol ord odd otp olt orw oso osz oit oho ohe otr stp laws z cnt fogs arms kinds faiths places moved isk tpd oat obg otk ovl rmn ((tr1 (tcd, trc) 31).1) ((tr1 (tcd, trc) 31).2) q x (by omega) (hkq) (by first | omega | ((repeat apply tr1_le); dsimp only; omega))) (cwV 2 hts gX11_comesAs_X11_comesAs rfl rfl rfl hdV_X11_comesAs ⟨Nat.le_of_ble_eq_true rfl, Nat.le_of_ble_eq_true rfl⟩) [0, 1, 2] rfl rfl 0 rfl rfl rfl hl.1 rfl (Nat.le_of_ble_eq_true rfl) dX11_comesAs_19 ⟨Nat.zero_le _, Nat.zero_le _⟩ (W' := [cob oh 11 [.ref os, .ref ok, .ref ol, .ref ord, .int isk, .ref odd, .ref otp, .int (nI tpd), .ref olt, .int oat, .int obg, .int otk, .int ovl, .ref orw, .int (nI rmn), .ref oso, .ref osz, .ref oit, .ref oho, .ref ohe, .ref otr, .int (nI (tr1 (tr1 (tr1 (tr1 (((tr1 (tcd, trc) 31).1), ((tr1 (tcd, trc) 31).2)) 13) 11) 30) 10).1), .int (nI q), .int 0], cin g os 51 (mR stp laws z cnt fogs arms kinds faiths places moved), cin g otr 30 ((tr1 (tr1 (tr1 (tr1 (((tr1 (tcd, trc) 31).1), ((tr1 (tcd, trc) 31).2)) 13) 11) 30) 10).2)]) rfl (fun H locs hw => ?_)
  refine lv_istore_n (lv' := [(3, .int (((((x * 3) - (nI q)) * 2) + ((places q) * 6)) ^^^ 200)), (0, .ref oh), (1, .int 2), (2, .int x)]) hx hb dX11_comesAs_22 rfl hl (by decide) rfl (fun ls hl => ?_)
  refine lv_iload_n hx hb dX11_comesAs_23 rfl (lv_at hl 0 rfl) ?_
  refine lv_aload_n hx hb dX11_comesAs_24 rfl (lv_at hl 1 rfl) ?_
  refine lv_aload_n hx hb dX11_comesAs_25 rfl (lv_at hl 1 rfl) ?_
  refine lv_aload_n hx hb dX11_comesAs_26 rfl (lv_at hl 1 rfl) ?_
  refine rg hf hk hw hinX11 0 rfl rfl 22 (by decide) w_0 rfl dX11_comesAs_27 ?_
  refine lv_iconst (v := 0) hx hb dX11_comesAs_30 (by decide) ?_
  refine mcV hf hk hst hw (c_X11_get0 l g oh os ok ol ord odd otp olt orw oso osz oit oho ohe otr stp laws z cnt fogs arms kinds faiths places moved isk tpd oat obg otk ovl rmn ((tr1 (tr1 (tr1 (tr1 (((tr1 (tcd, trc) 31).1), ((tr1 (tcd, trc) 31).2)) 13) 11) 30) 10).1) (nI q) 0 q (by omega)) (cwV 2 hts gX11_comesAs_X11_get rfl rfl rfl hdV_X11_get ⟨Nat.le_of_ble_eq_true rfl, Nat.le_of_ble_eq_true rfl⟩) [0, 1] rfl rfl 0 rfl rfl rfl hl.1 rfl (Nat.le_of_ble_eq_true rfl) dX11_comesAs_31 ⟨Nat.zero_le _, Nat.zero_le _⟩ (W' := [cob oh 11 [.ref os, .ref ok, .ref ol, .ref ord, .int isk, .ref odd, .ref otp, .int (nI tpd), .ref olt, .int oat, .int obg, .int otk, .int ovl, .ref orw, .int (nI rmn), .ref oso, .ref osz, .ref oit, .ref oho, .ref ohe, .ref otr, .int (nI ((tr1 (tr1 (tr1 (tr1 (((tr1 (tcd, trc) 31).1), ((tr1 (tcd, trc) 31).2)) 13) 11) 30) 10).1)), .int (nI q), .int 0], cin g os 51 (mR stp laws z cnt fogs arms kinds faiths places moved), cin g otr 30 ((tr1 (tr1 (tr1 (tr1 (((tr1 (tcd, trc) 31).1), ((tr1 (tcd, trc) 31).2)) 13) 11) 30) 10).2)]) rfl (fun H locs hw => ?_)
  refine lv_tope (y := 2) (hkq) ?_
  refine lv_aload_n hx hb dX11_comesAs_34 rfl (lv_at hl 1 rfl) ?_
  refine rg hf hk hw hinX11 0 rfl rfl 22 (by decide) w_0 rfl dX11_comesAs_35 ?_
  refine mcV hf hk hst hw (c_X11_partsAs_2_2 l g oh os ok ol ord odd otp olt orw oso osz oit oho ohe otr stp laws z cnt fogs arms kinds faiths places moved isk tpd oat obg otk ovl rmn ((tr1 (tr1 (tr1 (tr1 (((tr1 (tcd, trc) 31).1), ((tr1 (tcd, trc) 31).2)) 13) 11) 30) 10).1) ((tr1 (tr1 (tr1 (tr1 (((tr1 (tcd, trc) 31).1), ((tr1 (tcd, trc) 31).2)) 13) 11) 30) 10).2) q (nI q) (by omega) (hkq) (by first | omega | ((repeat apply tr1_le); dsimp only; omega))) (cwV 2 hts gX11_comesAs_X11_partsAs rfl rfl rfl hdV_X11_partsAs ⟨Nat.le_of_ble_eq_true rfl, Nat.le_of_ble_eq_true rfl⟩) [0, 1, 2] rfl rfl 0 rfl rfl rfl hl.1 rfl (Nat.le_of_ble_eq_true rfl) dX11_comesAs_38 ⟨Nat.zero_le _, Nat.zero_le _⟩ (W' := [cob oh 11 [.ref os, .ref ok, .ref ol, .ref ord, .int isk, .ref odd, .ref otp, .int (nI tpd), .ref olt, .int oat, .int obg, .int otk, .int ovl, .ref orw, .int (nI rmn), .ref oso, .ref osz, .ref oit, .ref oho, .ref ohe, .ref otr, .int (nI (tr1 (((tr1 (tr1 (tr1 (tr1 (((tr1 (tcd, trc) 31).1), ((tr1 (tcd, trc) 31).2)) 13) 11) 30) 10).1), ((tr1 (tr1 (tr1 (tr1 (((tr1 (tcd, trc) 31).1), ((tr1 (tcd, trc) 31).2)) 13) 11) 30) 10).2)) 12).1), .int (nI q), .int (brk (nI q) (places q) 0)], cin g os 51 (mR stp laws z cnt fogs arms kinds faiths places moved), cin g otr 30 ((tr1 (((tr1 (tr1 (tr1 (tr1 (((tr1 (tcd, trc) 31).1), ((tr1 (tcd, trc) 31).2)) 13) 11) 30) 10).1), ((tr1 (tr1 (tr1 (tr1 (((tr1 (tcd, trc) 31).1), ((tr1 (tcd, trc) 31).2)) 13) 11) 30) 10).2)) 12).2)]) rfl (fun H locs hw => ?_)
  refine lv_iadd hx hb dX11_comesAs_41 ?_
  exact re_i hf hr hlk hw (rfl) (by simp only [pr_eta]) dX11_comesAs_42
abbrev rmX11_comesAs_3_3 : Room := { frames := 5, cells := 0, slots := 0, locals := 111 }
set_option maxHeartbeats 4000000 in
set_option maxRecDepth 100000 in
theorem c_X11_comesAs_3_3 (l : Launch) (g : GG) (oh : Nat) (os : Nat) (ok : Nat) (ol : Nat) (ord : Nat) (odd : Nat) (otp : Nat) (olt : Nat) (orw : Nat) (oso : Nat) (osz : Nat) (oit : Nat) (oho : Nat) (ohe : Nat) (otr : Nat) (stp : Nat) (laws : Nat → Int32) (z : Int32) (cnt : Nat) (fogs : Nat → Int32) (arms : Nat → Int32) (kinds : Nat → Int32) (faiths : Nat → Int32) (places : Nat → Int32) (moved : Nat → Int32) (isk : Int32) (tpd : Nat) (oat : Int32) (obg : Int32) (otk : Int32) (ovl : Int32) (rmn : Nat) (tcd : Nat) (trc : Nat → Int32) (q : Nat) (x : Int32) (hq8 : q < 8) (hkq : kinds q = 3) (hbg : tcd ≤ 30) : mt l g yX11_comesAs wsX11_comesAs rmX11_comesAs_3_3 [.ref oh, .int 3, .int x] [cob oh 11 [.ref os, .ref ok, .ref ol, .ref ord, .int isk, .ref odd, .ref otp, .int (nI tpd), .ref olt, .int oat, .int obg, .int otk, .int ovl, .ref orw, .int (nI rmn), .ref oso, .ref osz, .ref oit, .ref oho, .ref ohe, .ref otr, .int (nI tcd), .int (nI q), .int 0], cin g os 51 (mR stp laws z cnt fogs arms kinds faiths places moved), cin g otr 30 trc] (some (.int ((-((((x * 3) - (nI q)) + 3) + ((places q) * 6))) ^^^ 200))) [cob oh 11 [.ref os, .ref ok, .ref ol, .ref ord, .int isk, .ref odd, .ref otp, .int (nI tpd), .ref olt, .int oat, .int obg, .int otk, .int ovl, .ref orw, .int (nI rmn), .ref oso, .ref osz, .ref oit, .ref oho, .ref ohe, .ref otr, .int (nI (tr1 (tr1 (tr1 (tr1 (tr1 (tcd, trc) 13) 20) 11) 51) 10).1), .int (nI q), .int 0], cin g os 51 (mR stp laws z cnt fogs arms kinds faiths places moved), cin g otr 30 ((tr1 (tr1 (tr1 (tr1 (tr1 (tcd, trc) 13) 20) 11) 51) 10).2)] := by
  refine mt.of (cc := cX11_comesAs) (nL := 4) (ret := (some .int)) (own := RX11) (by decide +kernel) rfl rfl (show ([oh, os, otr] : List Nat) = [oh, os, otr] from rfl) (Nat.le_of_ble_eq_true rfl) (fun p e s m below meth c hf hr hlk _ hk hst hw ls hl => ?_)
  have hx := hf.1
  have hb := hf.2.1
  have hts := hf.2.2.2.2
  have hl : lv_has ls 4 [(0, .ref oh), (1, .int 3), (2, .int x)] := hl
  have hinX11 : ∀ w ∈ u_ws RX11 TX11 24, w ∈ wsX11_comesAs := fun w h => List.mem_cons_of_mem _ (List.mem_append_right _ h)
  have w_0 : Cond.fieldLink RX11 244 "LightManModel" "own" "I" ∈ wsX11_comesAs := List.mem_of_getElem? (i := 1) rfl
  refine lv_iload_n hx hb dX11_comesAs_0 rfl (lv_at hl 1 rfl) ?_
  refine lv_iconst (v := 2) hx hb dX11_comesAs_1 (by decide) ?_
  refine lv_icmp_eq (tgt := 10) hx hb dX11_comesAs_2 (by decide) (fun q => absurd q (by decide)) (fun _ => ?_)
  refine lv_iload_n hx hb dX11_comesAs_5 rfl (lv_at hl 1 rfl) ?_
  refine lv_iconst (v := 4) hx hb dX11_comesAs_6 (by decide) ?_
  refine lv_icmp_ne (tgt := 43) hx hb dX11_comesAs_7 (by decide) (fun _ => ?_) (fun q => absurd q (by decide))
  refine lv_iload_n hx hb dX11_comesAs_43 rfl (lv_at hl 1 rfl) ?_
  refine lv_iconst (v := 5) hx hb dX11_comesAs_44 (by decide) ?_
  refine lv_icmp_ne (tgt := 64) hx hb dX11_comesAs_45 (by decide) (fun _ => ?_) (fun q => absurd q (by decide))
  refine lv_aload_n hx hb dX11_comesAs_64 rfl (lv_at hl 0 rfl) ?_
  refine lv_bipush (v := 13) hx hb dX11_comesAs_65 (by decide) ?_
  refine mcV hf hk hst hw (c_X11_starts l g oh os ok ol ord odd otp olt orw oso osz oit oho ohe otr isk tpd oat obg otk ovl rmn tcd (nI q) 0 trc 13 (by first | omega | ((repeat apply tr1_le); dsimp only; omega))) (cwV 1 hts gX11_comesAs_X11_starts rfl rfl rfl hdV_X11_starts ⟨Nat.le_of_ble_eq_true rfl, Nat.le_of_ble_eq_true rfl⟩) [0, 2] rfl rfl 0 rfl rfl rfl hl.1 rfl (Nat.le_of_ble_eq_true rfl) dX11_comesAs_67 ⟨Nat.zero_le _, Nat.zero_le _⟩ (W' := [cob oh 11 [.ref os, .ref ok, .ref ol, .ref ord, .int isk, .ref odd, .ref otp, .int (nI tpd), .ref olt, .int oat, .int obg, .int otk, .int ovl, .ref orw, .int (nI rmn), .ref oso, .ref osz, .ref oit, .ref oho, .ref ohe, .ref otr, .int (nI (tr1 (tcd, trc) 13).1), .int (nI q), .int 0], cin g os 51 (mR stp laws z cnt fogs arms kinds faiths places moved), cin g otr 30 ((tr1 (tcd, trc) 13).2)]) rfl (fun H locs hw => ?_)
  refine lv_aload_n hx hb dX11_comesAs_70 rfl (lv_at hl 0 rfl) ?_
  refine lv_aload_n hx hb dX11_comesAs_71 rfl (lv_at hl 0 rfl) ?_
  refine lv_aload_n hx hb dX11_comesAs_72 rfl (lv_at hl 0 rfl) ?_
  refine rg hf hk hw hinX11 0 rfl rfl 22 (by decide) w_0 rfl dX11_comesAs_73 ?_
  refine lv_iconst (v := 0) hx hb dX11_comesAs_76 (by decide) ?_
  refine mcV hf hk hst hw (c_X11_get0 l g oh os ok ol ord odd otp olt orw oso osz oit oho ohe otr stp laws z cnt fogs arms kinds faiths places moved isk tpd oat obg otk ovl rmn ((tr1 (tcd, trc) 13).1) (nI q) 0 q (by omega)) (cwV 2 hts gX11_comesAs_X11_get rfl rfl rfl hdV_X11_get ⟨Nat.le_of_ble_eq_true rfl, Nat.le_of_ble_eq_true rfl⟩) [0, 1] rfl rfl 0 rfl rfl rfl hl.1 rfl (Nat.le_of_ble_eq_true rfl) dX11_comesAs_77 ⟨Nat.zero_le _, Nat.zero_le _⟩ (W' := [cob oh 11 [.ref os, .ref ok, .ref ol, .ref ord, .int isk, .ref odd, .ref otp, .int (nI tpd), .ref olt, .int oat, .int obg, .int otk, .int ovl, .ref orw, .int (nI rmn), .ref oso, .ref osz, .ref oit, .ref oho, .ref ohe, .ref otr, .int (nI ((tr1 (tcd, trc) 13).1)), .int (nI q), .int 0], cin g os 51 (mR stp laws z cnt fogs arms kinds faiths places moved), cin g otr 30 ((tr1 (tcd, trc) 13).2)]) rfl (fun H locs hw => ?_)
  refine lv_tope (y := 3) (hkq) ?_
  refine lv_iload_n hx hb dX11_comesAs_80 rfl (lv_at hl 2 rfl) ?_
  refine mcV hf hk hst hw (c_X11_walksAs_3_3 l g oh os ok ol ord odd otp olt orw oso osz oit oho ohe otr stp laws z cnt fogs arms kinds faiths places moved isk tpd oat obg otk ovl rmn ((tr1 (tcd, trc) 13).1) 0 ((tr1 (tcd, trc) 13).2) q x (by omega) (hkq) (by first | omega | ((repeat apply tr1_le); dsimp only; omega))) (cwV 2 hts gX11_comesAs_X11_walksAs rfl rfl rfl hdV_X11_walksAs ⟨Nat.le_of_ble_eq_true rfl, Nat.le_of_ble_eq_true rfl⟩) [0, 1, 2] rfl rfl 0 rfl rfl rfl hl.1 rfl (Nat.le_of_ble_eq_true rfl) dX11_comesAs_81 ⟨Nat.zero_le _, Nat.zero_le _⟩ (W' := [cob oh 11 [.ref os, .ref ok, .ref ol, .ref ord, .int isk, .ref odd, .ref otp, .int (nI tpd), .ref olt, .int oat, .int obg, .int otk, .int ovl, .ref orw, .int (nI rmn), .ref oso, .ref osz, .ref oit, .ref oho, .ref ohe, .ref otr, .int (nI (tr1 (tr1 (tr1 (tr1 (((tr1 (tcd, trc) 13).1), ((tr1 (tcd, trc) 13).2)) 20) 11) 51) 10).1), .int (nI q), .int 0], cin g os 51 (mR stp laws z cnt fogs arms kinds faiths places moved), cin g otr 30 ((tr1 (tr1 (tr1 (tr1 (((tr1 (tcd, trc) 13).1), ((tr1 (tcd, trc) 13).2)) 20) 11) 51) 10).2)]) rfl (fun H locs hw => ?_)
  refine lv_sipush (v := 200) hx hb dX11_comesAs_84 (by decide) ?_
  refine lv_ixor hx hb dX11_comesAs_87 ?_
  exact re_i hf hr hlk hw (rfl) (by simp only [pr_eta]) dX11_comesAs_88
abbrev rmX11_comesAs_0_4 : Room := { frames := 6, cells := 0, slots := 0, locals := 133 }
set_option maxHeartbeats 4000000 in
set_option maxRecDepth 100000 in
theorem c_X11_comesAs_0_4 (l : Launch) (g : GG) (oh : Nat) (os : Nat) (ok : Nat) (ol : Nat) (ord : Nat) (odd : Nat) (otp : Nat) (olt : Nat) (orw : Nat) (oso : Nat) (osz : Nat) (oit : Nat) (oho : Nat) (ohe : Nat) (otr : Nat) (stp : Nat) (laws : Nat → Int32) (z : Int32) (cnt : Nat) (fogs : Nat → Int32) (arms : Nat → Int32) (kinds : Nat → Int32) (faiths : Nat → Int32) (places : Nat → Int32) (moved : Nat → Int32) (isk : Int32) (tpd : Nat) (oat : Int32) (obg : Int32) (otk : Int32) (ovl : Int32) (rmn : Nat) (tcd : Nat) (trc : Nat → Int32) (q : Nat) (x : Int32) (hq8 : q < 8) (hkq : kinds q = 4) (hbg : tcd ≤ 30) : mt l g yX11_comesAs wsX11_comesAs rmX11_comesAs_0_4 [.ref oh, .int 0, .int x] [cob oh 11 [.ref os, .ref ok, .ref ol, .ref ord, .int isk, .ref odd, .ref otp, .int (nI tpd), .ref olt, .int oat, .int obg, .int otk, .int ovl, .ref orw, .int (nI rmn), .ref oso, .ref osz, .ref oit, .ref oho, .ref ohe, .ref otr, .int (nI tcd), .int (nI q), .int 0], cin g os 51 (mR stp laws z cnt fogs arms kinds faiths places moved), cin g otr 30 trc] (some (.int (((((((x * 3) - (nI q)) * 2) ^^^ 9) + ((places q) * 6)) - ((((((places q) * 3) - (nI q)) * 2) ^^^ 9))) ^^^ 200))) [cob oh 11 [.ref os, .ref ok, .ref ol, .ref ord, .int isk, .ref odd, .ref otp, .int (nI tpd), .ref olt, .int oat, .int obg, .int otk, .int ovl, .ref orw, .int (nI rmn), .ref oso, .ref osz, .ref oit, .ref oho, .ref ohe, .ref otr, .int (nI (tr1 (tr1 (tr1 (tr1 (tr1 (tr1 (tr1 (tr1 (tr1 (tcd, trc) 13) 41) 11) 40) 30) 10) 40) 30) 10).1), .int (nI q), .int 0], cin g os 51 (mR stp laws z cnt fogs arms kinds faiths places moved), cin g otr 30 ((tr1 (tr1 (tr1 (tr1 (tr1 (tr1 (tr1 (tr1 (tr1 (tcd, trc) 13) 41) 11) 40) 30) 10) 40) 30) 10).2)] := by
  refine mt.of (cc := cX11_comesAs) (nL := 4) (ret := (some .int)) (own := RX11) (by decide +kernel) rfl rfl (show ([oh, os, otr] : List Nat) = [oh, os, otr] from rfl) (Nat.le_of_ble_eq_true rfl) (fun p e s m below meth c hf hr hlk _ hk hst hw ls hl => ?_)
  have hx := hf.1
  have hb := hf.2.1
  have hts := hf.2.2.2.2
  have hl : lv_has ls 4 [(0, .ref oh), (1, .int 0), (2, .int x)] := hl
  have hinX11 : ∀ w ∈ u_ws RX11 TX11 24, w ∈ wsX11_comesAs := fun w h => List.mem_cons_of_mem _ (List.mem_append_right _ h)
  have w_0 : Cond.fieldLink RX11 244 "LightManModel" "own" "I" ∈ wsX11_comesAs := List.mem_of_getElem? (i := 1) rfl
  refine lv_iload_n hx hb dX11_comesAs_0 rfl (lv_at hl 1 rfl) ?_
  refine lv_iconst (v := 2) hx hb dX11_comesAs_1 (by decide) ?_
  refine lv_icmp_eq (tgt := 10) hx hb dX11_comesAs_2 (by decide) (fun q => absurd q (by decide)) (fun _ => ?_)
  refine lv_iload_n hx hb dX11_comesAs_5 rfl (lv_at hl 1 rfl) ?_
  refine lv_iconst (v := 4) hx hb dX11_comesAs_6 (by decide) ?_
  refine lv_icmp_ne (tgt := 43) hx hb dX11_comesAs_7 (by decide) (fun _ => ?_) (fun q => absurd q (by decide))
  refine lv_iload_n hx hb dX11_comesAs_43 rfl (lv_at hl 1 rfl) ?_
  refine lv_iconst (v := 5) hx hb dX11_comesAs_44 (by decide) ?_
  refine lv_icmp_ne (tgt := 64) hx hb dX11_comesAs_45 (by decide) (fun _ => ?_) (fun q => absurd q (by decide))
  refine lv_aload_n hx hb dX11_comesAs_64 rfl (lv_at hl 0 rfl) ?_
  refine lv_bipush (v := 13) hx hb dX11_comesAs_65 (by decide) ?_
  refine mcV hf hk hst hw (c_X11_starts l g oh os ok ol ord odd otp olt orw oso osz oit oho ohe otr isk tpd oat obg otk ovl rmn tcd (nI q) 0 trc 13 (by first | omega | ((repeat apply tr1_le); dsimp only; omega))) (cwV 1 hts gX11_comesAs_X11_starts rfl rfl rfl hdV_X11_starts ⟨Nat.le_of_ble_eq_true rfl, Nat.le_of_ble_eq_true rfl⟩) [0, 2] rfl rfl 0 rfl rfl rfl hl.1 rfl (Nat.le_of_ble_eq_true rfl) dX11_comesAs_67 ⟨Nat.zero_le _, Nat.zero_le _⟩ (W' := [cob oh 11 [.ref os, .ref ok, .ref ol, .ref ord, .int isk, .ref odd, .ref otp, .int (nI tpd), .ref olt, .int oat, .int obg, .int otk, .int ovl, .ref orw, .int (nI rmn), .ref oso, .ref osz, .ref oit, .ref oho, .ref ohe, .ref otr, .int (nI (tr1 (tcd, trc) 13).1), .int (nI q), .int 0], cin g os 51 (mR stp laws z cnt fogs arms kinds faiths places moved), cin g otr 30 ((tr1 (tcd, trc) 13).2)]) rfl (fun H locs hw => ?_)
  refine lv_aload_n hx hb dX11_comesAs_70 rfl (lv_at hl 0 rfl) ?_
  refine lv_aload_n hx hb dX11_comesAs_71 rfl (lv_at hl 0 rfl) ?_
  refine lv_aload_n hx hb dX11_comesAs_72 rfl (lv_at hl 0 rfl) ?_
  refine rg hf hk hw hinX11 0 rfl rfl 22 (by decide) w_0 rfl dX11_comesAs_73 ?_
  refine lv_iconst (v := 0) hx hb dX11_comesAs_76 (by decide) ?_
  refine mcV hf hk hst hw (c_X11_get0 l g oh os ok ol ord odd otp olt orw oso osz oit oho ohe otr stp laws z cnt fogs arms kinds faiths places moved isk tpd oat obg otk ovl rmn ((tr1 (tcd, trc) 13).1) (nI q) 0 q (by omega)) (cwV 2 hts gX11_comesAs_X11_get rfl rfl rfl hdV_X11_get ⟨Nat.le_of_ble_eq_true rfl, Nat.le_of_ble_eq_true rfl⟩) [0, 1] rfl rfl 0 rfl rfl rfl hl.1 rfl (Nat.le_of_ble_eq_true rfl) dX11_comesAs_77 ⟨Nat.zero_le _, Nat.zero_le _⟩ (W' := [cob oh 11 [.ref os, .ref ok, .ref ol, .ref ord, .int isk, .ref odd, .ref otp, .int (nI tpd), .ref olt, .int oat, .int obg, .int otk, .int ovl, .ref orw, .int (nI rmn), .ref oso, .ref osz, .ref oit, .ref oho, .ref ohe, .ref otr, .int (nI ((tr1 (tcd, trc) 13).1)), .int (nI q), .int 0], cin g os 51 (mR stp laws z cnt fogs arms kinds faiths places moved), cin g otr 30 ((tr1 (tcd, trc) 13).2)]) rfl (fun H locs hw => ?_)
  refine lv_tope (y := 4) (hkq) ?_
  refine lv_iload_n hx hb dX11_comesAs_80 rfl (lv_at hl 2 rfl) ?_
  refine mcV hf hk hst hw (c_X11_walksAs_4_4 l g oh os ok ol ord odd otp olt orw oso osz oit oho ohe otr stp laws z cnt fogs arms kinds faiths places moved isk tpd oat obg otk ovl rmn ((tr1 (tcd, trc) 13).1) 0 ((tr1 (tcd, trc) 13).2) q x (by omega) (hkq) (by first | omega | ((repeat apply tr1_le); dsimp only; omega))) (cwV 2 hts gX11_comesAs_X11_walksAs rfl rfl rfl hdV_X11_walksAs ⟨Nat.le_of_ble_eq_true rfl, Nat.le_of_ble_eq_true rfl⟩) [0, 1, 2] rfl rfl 0 rfl rfl rfl hl.1 rfl (Nat.le_of_ble_eq_true rfl) dX11_comesAs_81 ⟨Nat.zero_le _, Nat.zero_le _⟩ (W' := [cob oh 11 [.ref os, .ref ok, .ref ol, .ref ord, .int isk, .ref odd, .ref otp, .int (nI tpd), .ref olt, .int oat, .int obg, .int otk, .int ovl, .ref orw, .int (nI rmn), .ref oso, .ref osz, .ref oit, .ref oho, .ref ohe, .ref otr, .int (nI (tr1 (tr1 (tr1 (tr1 (tr1 (tr1 (tr1 (tr1 (((tr1 (tcd, trc) 13).1), ((tr1 (tcd, trc) 13).2)) 41) 11) 40) 30) 10) 40) 30) 10).1), .int (nI q), .int 0], cin g os 51 (mR stp laws z cnt fogs arms kinds faiths places moved), cin g otr 30 ((tr1 (tr1 (tr1 (tr1 (tr1 (tr1 (tr1 (tr1 (((tr1 (tcd, trc) 13).1), ((tr1 (tcd, trc) 13).2)) 41) 11) 40) 30) 10) 40) 30) 10).2)]) rfl (fun H locs hw => ?_)
  refine lv_sipush (v := 200) hx hb dX11_comesAs_84 (by decide) ?_
  refine lv_ixor hx hb dX11_comesAs_87 ?_
  exact re_i hf hr hlk hw (rfl) (by simp only [pr_eta]) dX11_comesAs_88
abbrev rmX11_comesAs_4_4 : Room := { frames := 7, cells := 0, slots := 0, locals := 156 }
set_option maxHeartbeats 4000000 in
set_option maxRecDepth 100000 in
theorem c_X11_comesAs_4_4 (l : Launch) (g : GG) (oh : Nat) (os : Nat) (ok : Nat) (ol : Nat) (ord : Nat) (odd : Nat) (otp : Nat) (olt : Nat) (orw : Nat) (oso : Nat) (osz : Nat) (oit : Nat) (oho : Nat) (ohe : Nat) (otr : Nat) (stp : Nat) (laws : Nat → Int32) (z : Int32) (cnt : Nat) (fogs : Nat → Int32) (arms : Nat → Int32) (kinds : Nat → Int32) (faiths : Nat → Int32) (places : Nat → Int32) (moved : Nat → Int32) (isk : Int32) (tpd : Nat) (oat : Int32) (obg : Int32) (otk : Int32) (ovl : Int32) (rmn : Nat) (tcd : Nat) (trc : Nat → Int32) (q : Nat) (x : Int32) (hq8 : q < 8) (hkq : kinds q = 4) (hbg : tcd ≤ 30) : mt l g yX11_comesAs wsX11_comesAs rmX11_comesAs_4_4 [.ref oh, .int 4, .int x] [cob oh 11 [.ref os, .ref ok, .ref ol, .ref ord, .int isk, .ref odd, .ref otp, .int (nI tpd), .ref olt, .int oat, .int obg, .int otk, .int ovl, .ref orw, .int (nI rmn), .ref oso, .ref osz, .ref oit, .ref oho, .ref ohe, .ref otr, .int (nI tcd), .int (nI q), .int 0], cin g os 51 (mR stp laws z cnt fogs arms kinds faiths places moved), cin g otr 30 trc] (some (.int ((((((((x * 3) - (nI q)) * 2) ^^^ 9) + ((places q) * 6)) - ((((((places q) * 3) - (nI q)) * 2) ^^^ 9))) ^^^ 200) + (prt (nI q) (places q) (nI q))))) [cob oh 11 [.ref os, .ref ok, .ref ol, .ref ord, .int isk, .ref odd, .ref otp, .int (nI tpd), .ref olt, .int oat, .int obg, .int otk, .int ovl, .ref orw, .int (nI rmn), .ref oso, .ref osz, .ref oit, .ref oho, .ref ohe, .ref otr, .int (nI (tr1 (tr1 (tr1 (tr1 (tr1 (tr1 (tr1 (tr1 (tr1 (tr1 (tr1 (tcd, trc) 31) 13) 41) 11) 40) 30) 10) 40) 30) 10) 12).1), .int (nI q), .int (brk (nI q) (places q) 0)], cin g os 51 (mR stp laws z cnt fogs arms kinds faiths places moved), cin g otr 30 ((tr1 (tr1 (tr1 (tr1 (tr1 (tr1 (tr1 (tr1 (tr1 (tr1 (tr1 (tcd, trc) 31) 13) 41) 11) 40) 30) 10) 40) 30) 10) 12).2)] := by
  refine mt.of (cc := cX11_comesAs) (nL := 4) (ret := (some .int)) (own := RX11) (by decide +kernel) rfl rfl (show ([oh, os, otr] : List Nat) = [oh, os, otr] from rfl) (Nat.le_of_ble_eq_true rfl) (fun p e s m below meth c hf hr hlk _ hk hst hw ls hl => ?_)
  have hx := hf.1
  have hb := hf.2.1
  have hts := hf.2.2.2.2
  have hl : lv_has ls 4 [(0, .ref oh), (1, .int 4), (2, .int x)] := hl
  have hinX11 : ∀ w ∈ u_ws RX11 TX11 24, w ∈ wsX11_comesAs := fun w h => List.mem_cons_of_mem _ (List.mem_append_right _ h)
  have w_0 : Cond.fieldLink RX11 244 "LightManModel" "own" "I" ∈ wsX11_comesAs := List.mem_of_getElem? (i := 1) rfl
  refine lv_iload_n hx hb dX11_comesAs_0 rfl (lv_at hl 1 rfl) ?_
  refine lv_iconst (v := 2) hx hb dX11_comesAs_1 (by decide) ?_
  refine lv_icmp_eq (tgt := 10) hx hb dX11_comesAs_2 (by decide) (fun q => absurd q (by decide)) (fun _ => ?_)
  refine lv_iload_n hx hb dX11_comesAs_5 rfl (lv_at hl 1 rfl) ?_
  refine lv_iconst (v := 4) hx hb dX11_comesAs_6 (by decide) ?_
  refine lv_icmp_ne (tgt := 43) hx hb dX11_comesAs_7 (by decide) (fun q => absurd (by decide) q) (fun _ => ?_)
  refine lv_aload_n hx hb dX11_comesAs_10 rfl (lv_at hl 0 rfl) ?_
  refine lv_bipush (v := 31) hx hb dX11_comesAs_11 (by decide) ?_
  refine mcV hf hk hst hw (c_X11_starts l g oh os ok ol ord odd otp olt orw oso osz oit oho ohe otr isk tpd oat obg otk ovl rmn tcd (nI q) 0 trc 31 (by first | omega | ((repeat apply tr1_le); dsimp only; omega))) (cwV 1 hts gX11_comesAs_X11_starts rfl rfl rfl hdV_X11_starts ⟨Nat.le_of_ble_eq_true rfl, Nat.le_of_ble_eq_true rfl⟩) [0, 2] rfl rfl 0 rfl rfl rfl hl.1 rfl (Nat.le_of_ble_eq_true rfl) dX11_comesAs_13 ⟨Nat.zero_le _, Nat.zero_le _⟩ (W' := [cob oh 11 [.ref os, .ref ok, .ref ol, .ref ord, .int isk, .ref odd, .ref otp, .int (nI tpd), .ref olt, .int oat, .int obg, .int otk, .int ovl, .ref orw, .int (nI rmn), .ref oso, .ref osz, .ref oit, .ref oho, .ref ohe, .ref otr, .int (nI (tr1 (tcd, trc) 31).1), .int (nI q), .int 0], cin g os 51 (mR stp laws z cnt fogs arms kinds faiths places moved), cin g otr 30 ((tr1 (tcd, trc) 31).2)]) rfl (fun H locs hw => ?_)
  refine lv_aload_n hx hb dX11_comesAs_16 rfl (lv_at hl 0 rfl) ?_
  refine lv_iconst (v := 0) hx hb dX11_comesAs_17 (by decide) ?_
  refine lv_iload_n hx hb dX11_comesAs_18 rfl (lv_at hl 2 rfl) ?_
  refine mcV hf hk hst hw (c_X11_comesAs_0_4 l g oh os ok ol ord odd otp olt orw oso osz oit oho ohe otr stp laws z cnt fogs arms kinds faiths places moved isk tpd oat obg otk ovl rmn ((tr1 (tcd, trc) 31).1) ((tr1 (tcd, trc) 31).2) q x (by omega) (hkq) (by first | omega | ((repeat apply tr1_le); dsimp only; omega))) (cwV 2 hts gX11_comesAs_X11_comesAs rfl rfl rfl hdV_X11_comesAs ⟨Nat.le_of_ble_eq_true rfl, Nat.le_of_ble_eq_true rfl⟩) [0, 1, 2] rfl rfl 0 rfl rfl rfl hl.1 rfl (Nat.le_of_ble_eq_true rfl) dX11_comesAs_19 ⟨Nat.zero_le _, Nat.zero_le _⟩ (W' := [cob oh 11 [.ref os, .ref ok, .ref ol, .ref ord, .int isk, .ref odd, .ref otp, .int (nI tpd), .ref olt, .int oat, .int obg, .int otk, .int ovl, .ref orw, .int (nI rmn), .ref oso, .ref osz, .ref oit, .ref oho, .ref ohe, .ref otr, .int (nI (tr1 (tr1 (tr1 (tr1 (tr1 (tr1 (tr1 (tr1 (tr1 (((tr1 (tcd, trc) 31).1), ((tr1 (tcd, trc) 31).2)) 13) 41) 11) 40) 30) 10) 40) 30) 10).1), .int (nI q), .int 0], cin g os 51 (mR stp laws z cnt fogs arms kinds faiths places moved), cin g otr 30 ((tr1 (tr1 (tr1 (tr1 (tr1 (tr1 (tr1 (tr1 (tr1 (((tr1 (tcd, trc) 31).1), ((tr1 (tcd, trc) 31).2)) 13) 41) 11) 40) 30) 10) 40) 30) 10).2)]) rfl (fun H locs hw => ?_)
  refine lv_istore_n (lv' := [(3, .int (((((((x * 3) - (nI q)) * 2) ^^^ 9) + ((places q) * 6)) - ((((((places q) * 3) - (nI q)) * 2) ^^^ 9))) ^^^ 200)), (0, .ref oh), (1, .int 4), (2, .int x)]) hx hb dX11_comesAs_22 rfl hl (by decide) rfl (fun ls hl => ?_)
  refine lv_iload_n hx hb dX11_comesAs_23 rfl (lv_at hl 0 rfl) ?_
  refine lv_aload_n hx hb dX11_comesAs_24 rfl (lv_at hl 1 rfl) ?_
  refine lv_aload_n hx hb dX11_comesAs_25 rfl (lv_at hl 1 rfl) ?_
  refine lv_aload_n hx hb dX11_comesAs_26 rfl (lv_at hl 1 rfl) ?_
  refine rg hf hk hw hinX11 0 rfl rfl 22 (by decide) w_0 rfl dX11_comesAs_27 ?_
  refine lv_iconst (v := 0) hx hb dX11_comesAs_30 (by decide) ?_
  refine mcV hf hk hst hw (c_X11_get0 l g oh os ok ol ord odd otp olt orw oso osz oit oho ohe otr stp laws z cnt fogs arms kinds faiths places moved isk tpd oat obg otk ovl rmn ((tr1 (tr1 (tr1 (tr1 (tr1 (tr1 (tr1 (tr1 (tr1 (((tr1 (tcd, trc) 31).1), ((tr1 (tcd, trc) 31).2)) 13) 41) 11) 40) 30) 10) 40) 30) 10).1) (nI q) 0 q (by omega)) (cwV 2 hts gX11_comesAs_X11_get rfl rfl rfl hdV_X11_get ⟨Nat.le_of_ble_eq_true rfl, Nat.le_of_ble_eq_true rfl⟩) [0, 1] rfl rfl 0 rfl rfl rfl hl.1 rfl (Nat.le_of_ble_eq_true rfl) dX11_comesAs_31 ⟨Nat.zero_le _, Nat.zero_le _⟩ (W' := [cob oh 11 [.ref os, .ref ok, .ref ol, .ref ord, .int isk, .ref odd, .ref otp, .int (nI tpd), .ref olt, .int oat, .int obg, .int otk, .int ovl, .ref orw, .int (nI rmn), .ref oso, .ref osz, .ref oit, .ref oho, .ref ohe, .ref otr, .int (nI ((tr1 (tr1 (tr1 (tr1 (tr1 (tr1 (tr1 (tr1 (tr1 (((tr1 (tcd, trc) 31).1), ((tr1 (tcd, trc) 31).2)) 13) 41) 11) 40) 30) 10) 40) 30) 10).1)), .int (nI q), .int 0], cin g os 51 (mR stp laws z cnt fogs arms kinds faiths places moved), cin g otr 30 ((tr1 (tr1 (tr1 (tr1 (tr1 (tr1 (tr1 (tr1 (tr1 (((tr1 (tcd, trc) 31).1), ((tr1 (tcd, trc) 31).2)) 13) 41) 11) 40) 30) 10) 40) 30) 10).2)]) rfl (fun H locs hw => ?_)
  refine lv_tope (y := 4) (hkq) ?_
  refine lv_aload_n hx hb dX11_comesAs_34 rfl (lv_at hl 1 rfl) ?_
  refine rg hf hk hw hinX11 0 rfl rfl 22 (by decide) w_0 rfl dX11_comesAs_35 ?_
  refine mcV hf hk hst hw (c_X11_partsAs_4_4 l g oh os ok ol ord odd otp olt orw oso osz oit oho ohe otr stp laws z cnt fogs arms kinds faiths places moved isk tpd oat obg otk ovl rmn ((tr1 (tr1 (tr1 (tr1 (tr1 (tr1 (tr1 (tr1 (tr1 (((tr1 (tcd, trc) 31).1), ((tr1 (tcd, trc) 31).2)) 13) 41) 11) 40) 30) 10) 40) 30) 10).1) ((tr1 (tr1 (tr1 (tr1 (tr1 (tr1 (tr1 (tr1 (tr1 (((tr1 (tcd, trc) 31).1), ((tr1 (tcd, trc) 31).2)) 13) 41) 11) 40) 30) 10) 40) 30) 10).2) q (nI q) (by omega) (hkq) (by first | omega | ((repeat apply tr1_le); dsimp only; omega))) (cwV 2 hts gX11_comesAs_X11_partsAs rfl rfl rfl hdV_X11_partsAs ⟨Nat.le_of_ble_eq_true rfl, Nat.le_of_ble_eq_true rfl⟩) [0, 1, 2] rfl rfl 0 rfl rfl rfl hl.1 rfl (Nat.le_of_ble_eq_true rfl) dX11_comesAs_38 ⟨Nat.zero_le _, Nat.zero_le _⟩ (W' := [cob oh 11 [.ref os, .ref ok, .ref ol, .ref ord, .int isk, .ref odd, .ref otp, .int (nI tpd), .ref olt, .int oat, .int obg, .int otk, .int ovl, .ref orw, .int (nI rmn), .ref oso, .ref osz, .ref oit, .ref oho, .ref ohe, .ref otr, .int (nI (tr1 (((tr1 (tr1 (tr1 (tr1 (tr1 (tr1 (tr1 (tr1 (tr1 (((tr1 (tcd, trc) 31).1), ((tr1 (tcd, trc) 31).2)) 13) 41) 11) 40) 30) 10) 40) 30) 10).1), ((tr1 (tr1 (tr1 (tr1 (tr1 (tr1 (tr1 (tr1 (tr1 (((tr1 (tcd, trc) 31).1), ((tr1 (tcd, trc) 31).2)) 13) 41) 11) 40) 30) 10) 40) 30) 10).2)) 12).1), .int (nI q), .int (brk (nI q) (places q) 0)], cin g os 51 (mR stp laws z cnt fogs arms kinds faiths places moved), cin g otr 30 ((tr1 (((tr1 (tr1 (tr1 (tr1 (tr1 (tr1 (tr1 (tr1 (tr1 (((tr1 (tcd, trc) 31).1), ((tr1 (tcd, trc) 31).2)) 13) 41) 11) 40) 30) 10) 40) 30) 10).1), ((tr1 (tr1 (tr1 (tr1 (tr1 (tr1 (tr1 (tr1 (tr1 (((tr1 (tcd, trc) 31).1), ((tr1 (tcd, trc) 31).2)) 13) 41) 11) 40) 30) 10) 40) 30) 10).2)) 12).2)]) rfl (fun H locs hw => ?_)
  refine lv_iadd hx hb dX11_comesAs_41 ?_
  exact re_i hf hr hlk hw (rfl) (by simp only [pr_eta]) dX11_comesAs_42
abbrev rmX11_comesAs_0_5 : Room := { frames := 3, cells := 0, slots := 0, locals := 66 }
set_option maxHeartbeats 4000000 in
set_option maxRecDepth 100000 in
theorem c_X11_comesAs_0_5 (l : Launch) (g : GG) (oh : Nat) (os : Nat) (ok : Nat) (ol : Nat) (ord : Nat) (odd : Nat) (otp : Nat) (olt : Nat) (orw : Nat) (oso : Nat) (osz : Nat) (oit : Nat) (oho : Nat) (ohe : Nat) (otr : Nat) (stp : Nat) (laws : Nat → Int32) (z : Int32) (cnt : Nat) (fogs : Nat → Int32) (arms : Nat → Int32) (kinds : Nat → Int32) (faiths : Nat → Int32) (places : Nat → Int32) (moved : Nat → Int32) (isk : Int32) (tpd : Nat) (oat : Int32) (obg : Int32) (otk : Int32) (ovl : Int32) (rmn : Nat) (tcd : Nat) (trc : Nat → Int32) (q : Nat) (x : Int32) (hq8 : q < 8) (hkq : kinds q = 5) (hbg : tcd ≤ 30) : mt l g yX11_comesAs wsX11_comesAs rmX11_comesAs_0_5 [.ref oh, .int 0, .int x] [cob oh 11 [.ref os, .ref ok, .ref ol, .ref ord, .int isk, .ref odd, .ref otp, .int (nI tpd), .ref olt, .int oat, .int obg, .int otk, .int ovl, .ref orw, .int (nI rmn), .ref oso, .ref osz, .ref oit, .ref oho, .ref ohe, .ref otr, .int (nI tcd), .int (nI q), .int 0], cin g os 51 (mR stp laws z cnt fogs arms kinds faiths places moved), cin g otr 30 trc] (some (.int ((((x * 3) - (nI q)) + ((places q) * 6)) ^^^ 200))) [cob oh 11 [.ref os, .ref ok, .ref ol, .ref ord, .int isk, .ref odd, .ref otp, .int (nI tpd), .ref olt, .int oat, .int obg, .int otk, .int ovl, .ref orw, .int (nI rmn), .ref oso, .ref osz, .ref oit, .ref oho, .ref ohe, .ref otr, .int (nI (tr1 (tr1 (tr1 (tcd, trc) 13) 11) 10).1), .int (nI q), .int 0], cin g os 51 (mR stp laws z cnt fogs arms kinds faiths places moved), cin g otr 30 ((tr1 (tr1 (tr1 (tcd, trc) 13) 11) 10).2)] := by
  refine mt.of (cc := cX11_comesAs) (nL := 4) (ret := (some .int)) (own := RX11) (by decide +kernel) rfl rfl (show ([oh, os, otr] : List Nat) = [oh, os, otr] from rfl) (Nat.le_of_ble_eq_true rfl) (fun p e s m below meth c hf hr hlk _ hk hst hw ls hl => ?_)
  have hx := hf.1
  have hb := hf.2.1
  have hts := hf.2.2.2.2
  have hl : lv_has ls 4 [(0, .ref oh), (1, .int 0), (2, .int x)] := hl
  have hinX11 : ∀ w ∈ u_ws RX11 TX11 24, w ∈ wsX11_comesAs := fun w h => List.mem_cons_of_mem _ (List.mem_append_right _ h)
  have w_0 : Cond.fieldLink RX11 244 "LightManModel" "own" "I" ∈ wsX11_comesAs := List.mem_of_getElem? (i := 1) rfl
  refine lv_iload_n hx hb dX11_comesAs_0 rfl (lv_at hl 1 rfl) ?_
  refine lv_iconst (v := 2) hx hb dX11_comesAs_1 (by decide) ?_
  refine lv_icmp_eq (tgt := 10) hx hb dX11_comesAs_2 (by decide) (fun q => absurd q (by decide)) (fun _ => ?_)
  refine lv_iload_n hx hb dX11_comesAs_5 rfl (lv_at hl 1 rfl) ?_
  refine lv_iconst (v := 4) hx hb dX11_comesAs_6 (by decide) ?_
  refine lv_icmp_ne (tgt := 43) hx hb dX11_comesAs_7 (by decide) (fun _ => ?_) (fun q => absurd q (by decide))
  refine lv_iload_n hx hb dX11_comesAs_43 rfl (lv_at hl 1 rfl) ?_
  refine lv_iconst (v := 5) hx hb dX11_comesAs_44 (by decide) ?_
  refine lv_icmp_ne (tgt := 64) hx hb dX11_comesAs_45 (by decide) (fun _ => ?_) (fun q => absurd q (by decide))
  refine lv_aload_n hx hb dX11_comesAs_64 rfl (lv_at hl 0 rfl) ?_
  refine lv_bipush (v := 13) hx hb dX11_comesAs_65 (by decide) ?_
  refine mcV hf hk hst hw (c_X11_starts l g oh os ok ol ord odd otp olt orw oso osz oit oho ohe otr isk tpd oat obg otk ovl rmn tcd (nI q) 0 trc 13 (by first | omega | ((repeat apply tr1_le); dsimp only; omega))) (cwV 1 hts gX11_comesAs_X11_starts rfl rfl rfl hdV_X11_starts ⟨Nat.le_of_ble_eq_true rfl, Nat.le_of_ble_eq_true rfl⟩) [0, 2] rfl rfl 0 rfl rfl rfl hl.1 rfl (Nat.le_of_ble_eq_true rfl) dX11_comesAs_67 ⟨Nat.zero_le _, Nat.zero_le _⟩ (W' := [cob oh 11 [.ref os, .ref ok, .ref ol, .ref ord, .int isk, .ref odd, .ref otp, .int (nI tpd), .ref olt, .int oat, .int obg, .int otk, .int ovl, .ref orw, .int (nI rmn), .ref oso, .ref osz, .ref oit, .ref oho, .ref ohe, .ref otr, .int (nI (tr1 (tcd, trc) 13).1), .int (nI q), .int 0], cin g os 51 (mR stp laws z cnt fogs arms kinds faiths places moved), cin g otr 30 ((tr1 (tcd, trc) 13).2)]) rfl (fun H locs hw => ?_)
  refine lv_aload_n hx hb dX11_comesAs_70 rfl (lv_at hl 0 rfl) ?_
  refine lv_aload_n hx hb dX11_comesAs_71 rfl (lv_at hl 0 rfl) ?_
  refine lv_aload_n hx hb dX11_comesAs_72 rfl (lv_at hl 0 rfl) ?_
  refine rg hf hk hw hinX11 0 rfl rfl 22 (by decide) w_0 rfl dX11_comesAs_73 ?_
  refine lv_iconst (v := 0) hx hb dX11_comesAs_76 (by decide) ?_
  refine mcV hf hk hst hw (c_X11_get0 l g oh os ok ol ord odd otp olt orw oso osz oit oho ohe otr stp laws z cnt fogs arms kinds faiths places moved isk tpd oat obg otk ovl rmn ((tr1 (tcd, trc) 13).1) (nI q) 0 q (by omega)) (cwV 2 hts gX11_comesAs_X11_get rfl rfl rfl hdV_X11_get ⟨Nat.le_of_ble_eq_true rfl, Nat.le_of_ble_eq_true rfl⟩) [0, 1] rfl rfl 0 rfl rfl rfl hl.1 rfl (Nat.le_of_ble_eq_true rfl) dX11_comesAs_77 ⟨Nat.zero_le _, Nat.zero_le _⟩ (W' := [cob oh 11 [.ref os, .ref ok, .ref ol, .ref ord, .int isk, .ref odd, .ref otp, .int (nI tpd), .ref olt, .int oat, .int obg, .int otk, .int ovl, .ref orw, .int (nI rmn), .ref oso, .ref osz, .ref oit, .ref oho, .ref ohe, .ref otr, .int (nI ((tr1 (tcd, trc) 13).1)), .int (nI q), .int 0], cin g os 51 (mR stp laws z cnt fogs arms kinds faiths places moved), cin g otr 30 ((tr1 (tcd, trc) 13).2)]) rfl (fun H locs hw => ?_)
  refine lv_tope (y := 5) (hkq) ?_
  refine lv_iload_n hx hb dX11_comesAs_80 rfl (lv_at hl 2 rfl) ?_
  refine mcV hf hk hst hw (c_X11_walksAs_5_5 l g oh os ok ol ord odd otp olt orw oso osz oit oho ohe otr stp laws z cnt fogs arms kinds faiths places moved isk tpd oat obg otk ovl rmn ((tr1 (tcd, trc) 13).1) 0 ((tr1 (tcd, trc) 13).2) q x (by omega) (hkq) (by first | omega | ((repeat apply tr1_le); dsimp only; omega))) (cwV 2 hts gX11_comesAs_X11_walksAs rfl rfl rfl hdV_X11_walksAs ⟨Nat.le_of_ble_eq_true rfl, Nat.le_of_ble_eq_true rfl⟩) [0, 1, 2] rfl rfl 0 rfl rfl rfl hl.1 rfl (Nat.le_of_ble_eq_true rfl) dX11_comesAs_81 ⟨Nat.zero_le _, Nat.zero_le _⟩ (W' := [cob oh 11 [.ref os, .ref ok, .ref ol, .ref ord, .int isk, .ref odd, .ref otp, .int (nI tpd), .ref olt, .int oat, .int obg, .int otk, .int ovl, .ref orw, .int (nI rmn), .ref oso, .ref osz, .ref oit, .ref oho, .ref ohe, .ref otr, .int (nI (tr1 (tr1 (((tr1 (tcd, trc) 13).1), ((tr1 (tcd, trc) 13).2)) 11) 10).1), .int (nI q), .int 0], cin g os 51 (mR stp laws z cnt fogs arms kinds faiths places moved), cin g otr 30 ((tr1 (tr1 (((tr1 (tcd, trc) 13).1), ((tr1 (tcd, trc) 13).2)) 11) 10).2)]) rfl (fun H locs hw => ?_)
  refine lv_sipush (v := 200) hx hb dX11_comesAs_84 (by decide) ?_
  refine lv_ixor hx hb dX11_comesAs_87 ?_
  exact re_i hf hr hlk hw (rfl) (by simp only [pr_eta]) dX11_comesAs_88
abbrev rmX11_comesAs_5_5 : Room := { frames := 4, cells := 0, slots := 0, locals := 89 }
set_option maxHeartbeats 4000000 in
set_option maxRecDepth 100000 in
theorem c_X11_comesAs_5_5 (l : Launch) (g : GG) (oh : Nat) (os : Nat) (ok : Nat) (ol : Nat) (ord : Nat) (odd : Nat) (otp : Nat) (olt : Nat) (orw : Nat) (oso : Nat) (osz : Nat) (oit : Nat) (oho : Nat) (ohe : Nat) (otr : Nat) (stp : Nat) (laws : Nat → Int32) (z : Int32) (cnt : Nat) (fogs : Nat → Int32) (arms : Nat → Int32) (kinds : Nat → Int32) (faiths : Nat → Int32) (places : Nat → Int32) (moved : Nat → Int32) (isk : Int32) (tpd : Nat) (oat : Int32) (obg : Int32) (otk : Int32) (ovl : Int32) (rmn : Nat) (tcd : Nat) (trc : Nat → Int32) (q : Nat) (x : Int32) (hq8 : q < 8) (hkq : kinds q = 5) (hbg : tcd ≤ 30) : mt l g yX11_comesAs wsX11_comesAs rmX11_comesAs_5_5 [.ref oh, .int 5, .int x] [cob oh 11 [.ref os, .ref ok, .ref ol, .ref ord, .int isk, .ref odd, .ref otp, .int (nI tpd), .ref olt, .int oat, .int obg, .int otk, .int ovl, .ref orw, .int (nI rmn), .ref oso, .ref osz, .ref oit, .ref oho, .ref ohe, .ref otr, .int (nI tcd), .int (nI q), .int 0], cin g os 51 (mR stp laws z cnt fogs arms kinds faiths places moved), cin g otr 30 trc] (some (.int (((((x * 3) - (nI q)) + ((places q) * 6)) ^^^ 200) - 8))) [cob oh 11 [.ref os, .ref ok, .ref ol, .ref ord, .int isk, .ref odd, .ref otp, .int (nI tpd), .ref olt, .int oat, .int obg, .int otk, .int ovl, .ref orw, .int (nI rmn), .ref oso, .ref osz, .ref oit, .ref oho, .ref ohe, .ref otr, .int (nI (tr1 (tr1 (tr1 (tr1 (tcd, trc) 60) 13) 11) 10).1), .int (nI q), .int 0], cin g os 51 (mR stp laws z cnt fogs arms kinds faiths places moved), cin g otr 30 ((tr1 (tr1 (tr1 (tr1 (tcd, trc) 60) 13) 11) 10).2)] := by
  refine mt.of (cc := cX11_comesAs) (nL := 4) (ret := (some .int)) (own := RX11) (by decide +kernel) rfl rfl (show ([oh, os, otr] : List Nat) = [oh, os, otr] from rfl) (Nat.le_of_ble_eq_true rfl) (fun p e s m below meth c hf hr hlk _ hk hst hw ls hl => ?_)
  have hx := hf.1
  have hb := hf.2.1
  have hts := hf.2.2.2.2
  have hl : lv_has ls 4 [(0, .ref oh), (1, .int 5), (2, .int x)] := hl
  refine lv_iload_n hx hb dX11_comesAs_0 rfl (lv_at hl 1 rfl) ?_
  refine lv_iconst (v := 2) hx hb dX11_comesAs_1 (by decide) ?_
  refine lv_icmp_eq (tgt := 10) hx hb dX11_comesAs_2 (by decide) (fun q => absurd q (by decide)) (fun _ => ?_)
  refine lv_iload_n hx hb dX11_comesAs_5 rfl (lv_at hl 1 rfl) ?_
  refine lv_iconst (v := 4) hx hb dX11_comesAs_6 (by decide) ?_
  refine lv_icmp_ne (tgt := 43) hx hb dX11_comesAs_7 (by decide) (fun _ => ?_) (fun q => absurd q (by decide))
  refine lv_iload_n hx hb dX11_comesAs_43 rfl (lv_at hl 1 rfl) ?_
  refine lv_iconst (v := 5) hx hb dX11_comesAs_44 (by decide) ?_
  refine lv_icmp_ne (tgt := 64) hx hb dX11_comesAs_45 (by decide) (fun q => absurd (by decide) q) (fun _ => ?_)
  refine lv_aload_n hx hb dX11_comesAs_48 rfl (lv_at hl 0 rfl) ?_
  refine lv_bipush (v := 60) hx hb dX11_comesAs_49 (by decide) ?_
  refine mcV hf hk hst hw (c_X11_starts l g oh os ok ol ord odd otp olt orw oso osz oit oho ohe otr isk tpd oat obg otk ovl rmn tcd (nI q) 0 trc 60 (by first | omega | ((repeat apply tr1_le); dsimp only; omega))) (cwV 1 hts gX11_comesAs_X11_starts rfl rfl rfl hdV_X11_starts ⟨Nat.le_of_ble_eq_true rfl, Nat.le_of_ble_eq_true rfl⟩) [0, 2] rfl rfl 0 rfl rfl rfl hl.1 rfl (Nat.le_of_ble_eq_true rfl) dX11_comesAs_51 ⟨Nat.zero_le _, Nat.zero_le _⟩ (W' := [cob oh 11 [.ref os, .ref ok, .ref ol, .ref ord, .int isk, .ref odd, .ref otp, .int (nI tpd), .ref olt, .int oat, .int obg, .int otk, .int ovl, .ref orw, .int (nI rmn), .ref oso, .ref osz, .ref oit, .ref oho, .ref ohe, .ref otr, .int (nI (tr1 (tcd, trc) 60).1), .int (nI q), .int 0], cin g os 51 (mR stp laws z cnt fogs arms kinds faiths places moved), cin g otr 30 ((tr1 (tcd, trc) 60).2)]) rfl (fun H locs hw => ?_)
  refine lv_aload_n hx hb dX11_comesAs_54 rfl (lv_at hl 0 rfl) ?_
  refine lv_iconst (v := 0) hx hb dX11_comesAs_55 (by decide) ?_
  refine lv_iload_n hx hb dX11_comesAs_56 rfl (lv_at hl 2 rfl) ?_
  refine mcV hf hk hst hw (c_X11_comesAs_0_5 l g oh os ok ol ord odd otp olt orw oso osz oit oho ohe otr stp laws z cnt fogs arms kinds faiths places moved isk tpd oat obg otk ovl rmn ((tr1 (tcd, trc) 60).1) ((tr1 (tcd, trc) 60).2) q x (by omega) (hkq) (by first | omega | ((repeat apply tr1_le); dsimp only; omega))) (cwV 2 hts gX11_comesAs_X11_comesAs rfl rfl rfl hdV_X11_comesAs ⟨Nat.le_of_ble_eq_true rfl, Nat.le_of_ble_eq_true rfl⟩) [0, 1, 2] rfl rfl 0 rfl rfl rfl hl.1 rfl (Nat.le_of_ble_eq_true rfl) dX11_comesAs_57 ⟨Nat.zero_le _, Nat.zero_le _⟩ (W' := [cob oh 11 [.ref os, .ref ok, .ref ol, .ref ord, .int isk, .ref odd, .ref otp, .int (nI tpd), .ref olt, .int oat, .int obg, .int otk, .int ovl, .ref orw, .int (nI rmn), .ref oso, .ref osz, .ref oit, .ref oho, .ref ohe, .ref otr, .int (nI (tr1 (tr1 (tr1 (((tr1 (tcd, trc) 60).1), ((tr1 (tcd, trc) 60).2)) 13) 11) 10).1), .int (nI q), .int 0], cin g os 51 (mR stp laws z cnt fogs arms kinds faiths places moved), cin g otr 30 ((tr1 (tr1 (tr1 (((tr1 (tcd, trc) 60).1), ((tr1 (tcd, trc) 60).2)) 13) 11) 10).2)]) rfl (fun H locs hw => ?_)
  refine lv_bipush (v := 8) hx hb dX11_comesAs_60 (by decide) ?_
  refine lv_isub hx hb dX11_comesAs_62 ?_
  exact re_i hf hr hlk hw (rfl) (by simp only [pr_eta]) dX11_comesAs_63
/-- what a shelf holds -/
def hoF (cnt : Nat) (hds hdo : Nat → Int32) (q : Nat) : Int32 := if hds q = 0 then (if f_X8_has cnt (hdo q) = 0 then -1 else hds q) else hds q
theorem ho_ok {cnt : Nat} {hds hdo : Nat → Int32} {q : Nat} (hc : cnt ≤ 8) (h : hoF cnt hds hdo q = 0) : hdo q = nI (ix (hdo q)) ∧ ix (hdo q) < cnt := by
  unfold hoF at h
  by_cases h1 : hds q = 0
  · rw [if_pos h1] at h
    by_cases h2 : f_X8_has cnt (hdo q) = 0
    · rw [if_pos h2] at h; cases h
    · exact has_n hc h2
  · rw [if_neg h1] at h; exact absurd h h1
abbrev rmX11_heldOn : Room := { frames := 2, cells := 0, slots := 0, locals := 43 }
set_option maxHeartbeats 4000000 in
set_option maxRecDepth 100000 in
theorem c_X11_heldOn (l : Launch) (g : GG) (oh : Nat) (os : Nat) (ok : Nat) (ol : Nat) (ord : Nat) (odd : Nat) (otp : Nat) (olt : Nat) (orw : Nat) (oso : Nat) (osz : Nat) (oit : Nat) (oho : Nat) (ohe : Nat) (otr : Nat) (stp : Nat) (laws : Nat → Int32) (z : Int32) (cnt : Nat) (fogs : Nat → Int32) (arms : Nat → Int32) (kinds : Nat → Int32) (faiths : Nat → Int32) (places : Nat → Int32) (moved : Nat → Int32) (isk : Int32) (tpd : Nat) (oat : Int32) (obg : Int32) (otk : Int32) (ovl : Int32) (rmn : Nat) (tcd : Nat) (own_ : Int32) (opt : Int32) (hds : Nat → Int32) (hdo : Nat → Int32) (q : Nat) (hc8 : cnt ≤ 8) (hq4 : q < 4) : mt l g yX11_heldOn wsX11_heldOn rmX11_heldOn [.ref oh, .int (nI q)] [cob oh 11 [.ref os, .ref ok, .ref ol, .ref ord, .int isk, .ref odd, .ref otp, .int (nI tpd), .ref olt, .int oat, .int obg, .int otk, .int ovl, .ref orw, .int (nI rmn), .ref oso, .ref osz, .ref oit, .ref oho, .ref ohe, .ref otr, .int (nI tcd), .int own_, .int opt], cin g os 51 (mR stp laws z cnt fogs arms kinds faiths places moved), cin g oho 4 hds, cin g ohe 4 hdo] (some (.int (hoF cnt hds hdo q))) [cob oh 11 [.ref os, .ref ok, .ref ol, .ref ord, .int isk, .ref odd, .ref otp, .int (nI tpd), .ref olt, .int oat, .int obg, .int otk, .int ovl, .ref orw, .int (nI rmn), .ref oso, .ref osz, .ref oit, .ref oho, .ref ohe, .ref otr, .int (nI tcd), .int own_, .int opt], cin g os 51 (mR stp laws z cnt fogs arms kinds faiths places moved), cin g oho 4 hds, cin g ohe 4 hdo] := by
  refine mt.of (cc := cX11_heldOn) (nL := 2) (ret := (some .int)) (own := RX11) (by decide +kernel) rfl rfl (show ([oh, os, oho, ohe] : List Nat) = [oh, os, oho, ohe] from rfl) (Nat.le_of_ble_eq_true rfl) (fun p e s m below meth c hf hr hlk _ hk hst hw ls hl => ?_)
  have hx := hf.1
  have hb := hf.2.1
  have hts := hf.2.2.2.2
  have hl : lv_has ls 2 [(0, .ref oh), (1, .int (nI q))] := hl
  have hinX11 : ∀ w ∈ u_ws RX11 TX11 24, w ∈ wsX11_heldOn := fun w h => List.mem_cons_of_mem _ (List.mem_append_right _ h)
  have w_0 : Cond.fieldLink RX11 44 "LightManModel" "holds" "[I" ∈ wsX11_heldOn := List.mem_of_getElem? (i := 1) rfl
  have w_1 : Cond.fieldLink RX11 47 "LightManModel" "heldOne" "[I" ∈ wsX11_heldOn := List.mem_of_getElem? (i := 2) rfl
  refine lv_aload_n hx hb dX11_heldOn_0 rfl (lv_at hl 0 rfl) ?_
  refine rg hf hk hw hinX11 0 rfl rfl 18 (by decide) w_0 rfl dX11_heldOn_1 ?_
  refine lv_iload_n hx hb dX11_heldOn_4 rfl (lv_at hl 1 rfl) ?_
  refine rij hf hk hw 2 rfl (j := q) (vp_in_nI (by omega) (by omega)) (nI_clamp (by omega)) dX11_heldOn_5 ?_
  refine lv_if_ne (tgt := 26) hx hb dX11_heldOn_6 (by decide) (fun c_1 => ?_) (fun c_1 => ?_)
  · refine lv_aload_n hx hb dX11_heldOn_26 rfl (lv_at hl 0 rfl) ?_
    refine rg hf hk hw hinX11 0 rfl rfl 18 (by decide) w_0 rfl dX11_heldOn_27 ?_
    refine lv_iload_n hx hb dX11_heldOn_30 rfl (lv_at hl 1 rfl) ?_
    refine rij hf hk hw 2 rfl (j := q) (vp_in_nI (by omega) (by omega)) (nI_clamp (by omega)) dX11_heldOn_31 ?_
    exact re_i hf hr hlk hw (by unfold hoF; rw [if_neg c_1]) (rfl) dX11_heldOn_32
  · refine lv_aload_n hx hb dX11_heldOn_9 rfl (lv_at hl 0 rfl) ?_
    refine lv_aload_n hx hb dX11_heldOn_10 rfl (lv_at hl 0 rfl) ?_
    refine rg hf hk hw hinX11 0 rfl rfl 19 (by decide) w_1 rfl dX11_heldOn_11 ?_
    refine lv_iload_n hx hb dX11_heldOn_14 rfl (lv_at hl 1 rfl) ?_
    refine rij hf hk hw 3 rfl (j := q) (vp_in_nI (by omega) (by omega)) (nI_clamp (by omega)) dX11_heldOn_15 ?_
    refine mcV hf hk hst hw (c_X11_isGoer l g oh os ok ol ord odd otp olt orw oso osz oit oho ohe otr stp laws z cnt fogs arms kinds faiths places moved isk tpd oat obg otk ovl rmn tcd own_ opt (hdo q) (by omega)) (cwV 1 hts gX11_heldOn_X11_isGoer rfl rfl rfl hdV_X11_isGoer ⟨Nat.le_of_ble_eq_true rfl, Nat.le_of_ble_eq_true rfl⟩) [0, 1] rfl rfl 0 rfl rfl rfl hl.1 rfl (Nat.le_of_ble_eq_true rfl) dX11_heldOn_16 ⟨Nat.zero_le _, Nat.zero_le _⟩ (W' := [cob oh 11 [.ref os, .ref ok, .ref ol, .ref ord, .int isk, .ref odd, .ref otp, .int (nI tpd), .ref olt, .int oat, .int obg, .int otk, .int ovl, .ref orw, .int (nI rmn), .ref oso, .ref osz, .ref oit, .ref oho, .ref ohe, .ref otr, .int (nI tcd), .int own_, .int opt], cin g os 51 (mR stp laws z cnt fogs arms kinds faiths places moved), cin g oho 4 hds, cin g ohe 4 hdo]) rfl (fun H locs hw => ?_)
    refine lv_if_ne (tgt := 26) hx hb dX11_heldOn_19 (by decide) (fun c_2 => ?_) (fun c_2 => ?_)
    · refine lv_aload_n hx hb dX11_heldOn_26 rfl (lv_at hl 0 rfl) ?_
      refine rg hf hk hw hinX11 0 rfl rfl 18 (by decide) w_0 rfl dX11_heldOn_27 ?_
      refine lv_iload_n hx hb dX11_heldOn_30 rfl (lv_at hl 1 rfl) ?_
      refine rij hf hk hw 2 rfl (j := q) (vp_in_nI (by omega) (by omega)) (nI_clamp (by omega)) dX11_heldOn_31 ?_
      exact re_i hf hr hlk hw (by unfold hoF; rw [if_pos c_1, if_neg c_2]) (rfl) dX11_heldOn_32
    · refine lv_iconst (v := (-1)) hx hb dX11_heldOn_22 (by decide) ?_
      refine lv_goto (tgt := 32) hx hb dX11_heldOn_23 (by decide) ?_
      exact re_i hf hr hlk hw (by unfold hoF; rw [if_pos c_1, if_pos c_2]) (rfl) dX11_heldOn_32
theorem hdV_X11_heldOn : yX11_heldOn.cls = RX11 ∧ yX11_heldOn.cls ≠ "java/lang/invoke/MethodHandle" ∧ yX11_heldOn.cls ≠ "java/lang/invoke/VarHandle" ∧ (parseMethodDescriptor yX11_heldOn.desc).map (fun d => d.parameters.length) = some 1 := by decide +kernel
def f_X11_act (cnt : Nat) (kinds : Nat → Int32) (places : Nat → Int32) (hds : Nat → Int32) (hdo : Nat → Int32) (shelf : Int32) (act : Int32) (x : Int32) : Int32 := if (nO shelf 0 3) = 0 then 0 else (if (nO act 0 3) = 0 then 0 else (if (hoF cnt hds hdo (ix shelf)) = 0 then (if (kinds (ix (hdo (ix shelf)))) = 0 then (if act = 0 then ((x * 3) - (nI (ix (hdo (ix shelf))))) else (if act = 1 then (((x * 3) - (nI (ix (hdo (ix shelf))))) + ((places (ix (hdo (ix shelf)))) * 6)) else (if act = 2 then (if (brk (nI (ix (hdo (ix shelf)))) (places (ix (hdo (ix shelf)))) 0) = 0 then (prt (nI (ix (hdo (ix shelf)))) (places (ix (hdo (ix shelf)))) x) else (-15)) else ((((x * 3) - (nI (ix (hdo (ix shelf))))) + ((places (ix (hdo (ix shelf)))) * 6)) ^^^ 200)))) else (if (kinds (ix (hdo (ix shelf)))) = 1 then (if act = 0 then ((x * 3) - (nI (ix (hdo (ix shelf))))) else (if act = 1 then (-(((x * 3) - (nI (ix (hdo (ix shelf))))) + ((places (ix (hdo (ix shelf)))) * 6))) else (if act = 2 then (if (brk (nI (ix (hdo (ix shelf)))) (places (ix (hdo (ix shelf)))) 0) = 0 then (prt (nI (ix (hdo (ix shelf)))) (places (ix (hdo (ix shelf)))) x) else (-15)) else ((-(((x * 3) - (nI (ix (hdo (ix shelf))))) + ((places (ix (hdo (ix shelf)))) * 6))) ^^^ 200)))) else (if (kinds (ix (hdo (ix shelf)))) = 2 then (if act = 0 then (((x * 3) - (nI (ix (hdo (ix shelf))))) * 2) else (if act = 1 then ((((x * 3) - (nI (ix (hdo (ix shelf))))) * 2) + ((places (ix (hdo (ix shelf)))) * 6)) else (if act = 2 then (if (brk (nI (ix (hdo (ix shelf)))) (places (ix (hdo (ix shelf)))) 0) = 0 then (prt (nI (ix (hdo (ix shelf)))) (places (ix (hdo (ix shelf)))) x) else (-15)) else (if (brk (nI (ix (hdo (ix shelf)))) (places (ix (hdo (ix shelf)))) 0) = 0 then ((((((x * 3) - (nI (ix (hdo (ix shelf))))) * 2) + ((places (ix (hdo (ix shelf)))) * 6)) ^^^ 200) + (prt (nI (ix (hdo (ix shelf)))) (places (ix (hdo (ix shelf)))) (nI (ix (hdo (ix shelf)))))) else (-15))))) else (if (kinds (ix (hdo (ix shelf)))) = 3 then (if act = 0 then (((x * 3) - (nI (ix (hdo (ix shelf))))) + 3) else (if act = 1 then (-((((x * 3) - (nI (ix (hdo (ix shelf))))) + 3) + ((places (ix (hdo (ix shelf)))) * 6))) else (if act = 2 then (if (brk (nI (ix (hdo (ix shelf)))) (places (ix (hdo (ix shelf)))) 0) = 0 then ((prt (nI (ix (hdo (ix shelf)))) (places (ix (hdo (ix shelf)))) (x + 4)) * (nI (ix (hdo (ix shelf))))) else (-15)) else ((-((((x * 3) - (nI (ix (hdo (ix shelf))))) + 3) + ((places (ix (hdo (ix shelf)))) * 6))) ^^^ 200)))) else (if (kinds (ix (hdo (ix shelf)))) = 4 then (if act = 0 then ((((x * 3) - (nI (ix (hdo (ix shelf))))) * 2) ^^^ 9) else (if act = 1 then ((((((x * 3) - (nI (ix (hdo (ix shelf))))) * 2) ^^^ 9) + ((places (ix (hdo (ix shelf)))) * 6)) - ((((((places (ix (hdo (ix shelf)))) * 3) - (nI (ix (hdo (ix shelf))))) * 2) ^^^ 9))) else (if act = 2 then (if (brk (nI (ix (hdo (ix shelf)))) (places (ix (hdo (ix shelf)))) 0) = 0 then (prt (nI (ix (hdo (ix shelf)))) (places (ix (hdo (ix shelf)))) x) else (-15)) else (if (brk (nI (ix (hdo (ix shelf)))) (places (ix (hdo (ix shelf)))) 0) = 0 then ((((((((x * 3) - (nI (ix (hdo (ix shelf))))) * 2) ^^^ 9) + ((places (ix (hdo (ix shelf)))) * 6)) - ((((((places (ix (hdo (ix shelf)))) * 3) - (nI (ix (hdo (ix shelf))))) * 2) ^^^ 9))) ^^^ 200) + (prt (nI (ix (hdo (ix shelf)))) (places (ix (hdo (ix shelf)))) (nI (ix (hdo (ix shelf)))))) else (-15))))) else (if act = 0 then ((x * 3) - (nI (ix (hdo (ix shelf))))) else (if act = 1 then (((x * 3) - (nI (ix (hdo (ix shelf))))) + ((places (ix (hdo (ix shelf)))) * 6)) else (if act = 2 then (if (brk (nI (ix (hdo (ix shelf)))) (places (ix (hdo (ix shelf)))) 0) = 0 then (if brk (nI (ix (hdo (ix shelf)))) (places (ix (hdo (ix shelf)))) 0 = 0 then prt (nI (ix (hdo (ix shelf)))) (places (ix (hdo (ix shelf)))) x + (nI (ix (hdo (ix shelf))) * 3 - nI (ix (hdo (ix shelf)))) else 0) else (-15)) else (((((x * 3) - (nI (ix (hdo (ix shelf))))) + ((places (ix (hdo (ix shelf)))) * 6)) ^^^ 200) - 8))))))))) else 0))
def f_X11_act_w1 (cnt : Nat) (kinds : Nat → Int32) (places : Nat → Int32) (hds : Nat → Int32) (hdo : Nat → Int32) (trc : Nat → Int32) (shelf : Int32) (act : Int32) : Int32 := if (nO shelf 0 3) = 0 then 0 else (if (nO act 0 3) = 0 then 0 else (if (hoF cnt hds hdo (ix shelf)) = 0 then (if (kinds (ix (hdo (ix shelf)))) = 0 then (if act = 0 then (nI (tr1 (0, trc) 10).1) else (if act = 1 then (nI (tr1 (tr1 (0, trc) 11) 10).1) else (if act = 2 then (nI (tr1 (0, trc) 12).1) else (nI (tr1 (tr1 (tr1 (0, trc) 13) 11) 10).1)))) else (if (kinds (ix (hdo (ix shelf)))) = 1 then (if act = 0 then (nI (tr1 (0, trc) 10).1) else (if act = 1 then (nI (tr1 (tr1 (tr1 (0, trc) 20) 11) 10).1) else (if act = 2 then (nI (tr1 (0, trc) 12).1) else (nI (tr1 (tr1 (tr1 (tr1 (0, trc) 13) 20) 11) 10).1)))) else (if (kinds (ix (hdo (ix shelf)))) = 2 then (if act = 0 then (nI (tr1 (tr1 (0, trc) 30) 10).1) else (if act = 1 then (nI (tr1 (tr1 (tr1 (0, trc) 11) 30) 10).1) else (if act = 2 then (nI (tr1 (0, trc) 12).1) else (nI (tr1 (tr1 (tr1 (tr1 (tr1 (tr1 (0, trc) 31) 13) 11) 30) 10) 12).1)))) else (if (kinds (ix (hdo (ix shelf)))) = 3 then (if act = 0 then (nI (tr1 (tr1 (0, trc) 51) 10).1) else (if act = 1 then (nI (tr1 (tr1 (tr1 (tr1 (0, trc) 20) 11) 51) 10).1) else (if act = 2 then (nI (tr1 (tr1 (0, trc) 50) 12).1) else (nI (tr1 (tr1 (tr1 (tr1 (tr1 (0, trc) 13) 20) 11) 51) 10).1)))) else (if (kinds (ix (hdo (ix shelf)))) = 4 then (if act = 0 then (nI (tr1 (tr1 (tr1 (0, trc) 40) 30) 10).1) else (if act = 1 then (nI (tr1 (tr1 (tr1 (tr1 (tr1 (tr1 (tr1 (tr1 (0, trc) 41) 11) 40) 30) 10) 40) 30) 10).1) else (if act = 2 then (nI (tr1 (0, trc) 12).1) else (nI (tr1 (tr1 (tr1 (tr1 (tr1 (tr1 (tr1 (tr1 (tr1 (tr1 (tr1 (0, trc) 31) 13) 41) 11) 40) 30) 10) 40) 30) 10) 12).1)))) else (if act = 0 then (nI (tr1 (0, trc) 10).1) else (if act = 1 then (nI (tr1 (tr1 (0, trc) 11) 10).1) else (if act = 2 then (nI (if brk (nI (ix (hdo (ix shelf)))) (places (ix (hdo (ix shelf)))) 0 = 0 then (tr1 (tr1 (tr1 (0, trc) 61) 12) 10) else (tr1 (tr1 (0, trc) 61) 12)).1) else (nI (tr1 (tr1 (tr1 (tr1 (0, trc) 60) 13) 11) 10).1))))))))) else (nI 0)))
def f_X11_act_w2 (cnt : Nat) (own_ : Int32) (hds : Nat → Int32) (hdo : Nat → Int32) (shelf : Int32) (act : Int32) : Int32 := if (nO shelf 0 3) = 0 then own_ else (if (nO act 0 3) = 0 then own_ else (if (hoF cnt hds hdo (ix shelf)) = 0 then (nI (ix (hdo (ix shelf)))) else own_))
def f_X11_act_w3 (cnt : Nat) (kinds : Nat → Int32) (places : Nat → Int32) (opt : Int32) (hds : Nat → Int32) (hdo : Nat → Int32) (shelf : Int32) (act : Int32) : Int32 := if (nO shelf 0 3) = 0 then opt else (if (nO act 0 3) = 0 then opt else (if (hoF cnt hds hdo (ix shelf)) = 0 then (if (kinds (ix (hdo (ix shelf)))) = 0 then (if act = 0 then 0 else (if act = 1 then 0 else (if act = 2 then (brk (nI (ix (hdo (ix shelf)))) (places (ix (hdo (ix shelf)))) 0) else 0))) else (if (kinds (ix (hdo (ix shelf)))) = 1 then (if act = 0 then 0 else (if act = 1 then 0 else (if act = 2 then (brk (nI (ix (hdo (ix shelf)))) (places (ix (hdo (ix shelf)))) 0) else 0))) else (if (kinds (ix (hdo (ix shelf)))) = 2 then (if act = 0 then 0 else (if act = 1 then 0 else (brk (nI (ix (hdo (ix shelf)))) (places (ix (hdo (ix shelf)))) 0))) else (if (kinds (ix (hdo (ix shelf)))) = 3 then (if act = 0 then 0 else (if act = 1 then 0 else (if act = 2 then (brk (nI (ix (hdo (ix shelf)))) (places (ix (hdo (ix shelf)))) 0) else 0))) else (if (kinds (ix (hdo (ix shelf)))) = 4 then (if act = 0 then 0 else (if act = 1 then 0 else (brk (nI (ix (hdo (ix shelf)))) (places (ix (hdo (ix shelf)))) 0))) else (if act = 0 then 0 else (if act = 1 then 0 else (if act = 2 then (brk (nI (ix (hdo (ix shelf)))) (places (ix (hdo (ix shelf)))) 0) else 0)))))))) else opt))
def f_X11_act_w4 (cnt : Nat) (kinds : Nat → Int32) (places : Nat → Int32) (hds : Nat → Int32) (hdo : Nat → Int32) (trc : Nat → Int32) (shelf : Int32) (act : Int32) : Nat → Int32 := if (nO shelf 0 3) = 0 then trc else (if (nO act 0 3) = 0 then trc else (if (hoF cnt hds hdo (ix shelf)) = 0 then (if (kinds (ix (hdo (ix shelf)))) = 0 then (if act = 0 then ((tr1 (0, trc) 10).2) else (if act = 1 then ((tr1 (tr1 (0, trc) 11) 10).2) else (if act = 2 then ((tr1 (0, trc) 12).2) else ((tr1 (tr1 (tr1 (0, trc) 13) 11) 10).2)))) else (if (kinds (ix (hdo (ix shelf)))) = 1 then (if act = 0 then ((tr1 (0, trc) 10).2) else (if act = 1 then ((tr1 (tr1 (tr1 (0, trc) 20) 11) 10).2) else (if act = 2 then ((tr1 (0, trc) 12).2) else ((tr1 (tr1 (tr1 (tr1 (0, trc) 13) 20) 11) 10).2)))) else (if (kinds (ix (hdo (ix shelf)))) = 2 then (if act = 0 then ((tr1 (tr1 (0, trc) 30) 10).2) else (if act = 1 then ((tr1 (tr1 (tr1 (0, trc) 11) 30) 10).2) else (if act = 2 then ((tr1 (0, trc) 12).2) else ((tr1 (tr1 (tr1 (tr1 (tr1 (tr1 (0, trc) 31) 13) 11) 30) 10) 12).2)))) else (if (kinds (ix (hdo (ix shelf)))) = 3 then (if act = 0 then ((tr1 (tr1 (0, trc) 51) 10).2) else (if act = 1 then ((tr1 (tr1 (tr1 (tr1 (0, trc) 20) 11) 51) 10).2) else (if act = 2 then ((tr1 (tr1 (0, trc) 50) 12).2) else ((tr1 (tr1 (tr1 (tr1 (tr1 (0, trc) 13) 20) 11) 51) 10).2)))) else (if (kinds (ix (hdo (ix shelf)))) = 4 then (if act = 0 then ((tr1 (tr1 (tr1 (0, trc) 40) 30) 10).2) else (if act = 1 then ((tr1 (tr1 (tr1 (tr1 (tr1 (tr1 (tr1 (tr1 (0, trc) 41) 11) 40) 30) 10) 40) 30) 10).2) else (if act = 2 then ((tr1 (0, trc) 12).2) else ((tr1 (tr1 (tr1 (tr1 (tr1 (tr1 (tr1 (tr1 (tr1 (tr1 (tr1 (0, trc) 31) 13) 41) 11) 40) 30) 10) 40) 30) 10) 12).2)))) else (if act = 0 then ((tr1 (0, trc) 10).2) else (if act = 1 then ((tr1 (tr1 (0, trc) 11) 10).2) else (if act = 2 then ((if brk (nI (ix (hdo (ix shelf)))) (places (ix (hdo (ix shelf)))) 0 = 0 then (tr1 (tr1 (tr1 (0, trc) 61) 12) 10) else (tr1 (tr1 (0, trc) 61) 12)).2) else ((tr1 (tr1 (tr1 (tr1 (0, trc) 60) 13) 11) 10).2))))))))) else trc))
abbrev rmX11_act : Room := { frames := 8, cells := 0, slots := 0, locals := 179 }
set_option maxHeartbeats 4000000 in
set_option maxRecDepth 100000 in
theorem c_X11_act (l : Launch) (g : GG) (oh : Nat) (os : Nat) (ok : Nat) (ol : Nat) (ord : Nat) (odd : Nat) (otp : Nat) (olt : Nat) (orw : Nat) (oso : Nat) (osz : Nat) (oit : Nat) (oho : Nat) (ohe : Nat) (otr : Nat) (stp : Nat) (laws : Nat → Int32) (z : Int32) (cnt : Nat) (fogs : Nat → Int32) (arms : Nat → Int32) (kinds : Nat → Int32) (faiths : Nat → Int32) (places : Nat → Int32) (moved : Nat → Int32) (isk : Int32) (tpd : Nat) (oat : Int32) (obg : Int32) (otk : Int32) (ovl : Int32) (rmn : Nat) (tcd : Nat) (own_ : Int32) (opt : Int32) (hds : Nat → Int32) (hdo : Nat → Int32) (trc : Nat → Int32) (shelf : Int32) (act : Int32) (x : Int32) (hc8 : cnt ≤ 8) (hkd : ∀ j, j < cnt → isK (kinds j)) : mtR l g yX11_act wsX11_act rmX11_act [.ref oh, .int shelf, .int act, .int x] [cob oh 11 [.ref os, .ref ok, .ref ol, .ref ord, .int isk, .ref odd, .ref otp, .int (nI tpd), .ref olt, .int oat, .int obg, .int otk, .int ovl, .ref orw, .int (nI rmn), .ref oso, .ref osz, .ref oit, .ref oho, .ref ohe, .ref otr, .int (nI tcd), .int own_, .int opt], cin g os 51 (mR stp laws z cnt fogs arms kinds faiths places moved), cin g oho 4 hds, cin g ohe 4 hdo, cin g otr 30 trc] (fun rv W => rv = (some (.int (f_X11_act cnt kinds places hds hdo shelf act x))) ∧ W = [cob oh 11 [.ref os, .ref ok, .ref ol, .ref ord, .int isk, .ref odd, .ref otp, .int (nI tpd), .ref olt, .int oat, .int obg, .int otk, .int ovl, .ref orw, .int (nI rmn), .ref oso, .ref osz, .ref oit, .ref oho, .ref ohe, .ref otr, .int (f_X11_act_w1 cnt kinds places hds hdo trc shelf act), .int (f_X11_act_w2 cnt own_ hds hdo shelf act), .int (f_X11_act_w3 cnt kinds places opt hds hdo shelf act)], cin g os 51 (mR stp laws z cnt fogs arms kinds faiths places moved), cin g oho 4 hds, cin g ohe 4 hdo, cin g otr 30 (f_X11_act_w4 cnt kinds places hds hdo trc shelf act)]) := by
  refine mtR.of (cc := cX11_act) (nL := 6) (ret := (some .int)) (own := RX11) (by decide +kernel) rfl rfl (Nat.le_of_ble_eq_true rfl) (fun p e s m below meth c hf hr hlk _ hk hst hw ls hl => ?_)
  have hx := hf.1
  have hb := hf.2.1
  have hts := hf.2.2.2.2
  have hl : lv_has ls 6 [(0, .ref oh), (1, .int shelf), (2, .int act), (3, .int x)] := hl
  have hinX11 : ∀ w ∈ u_ws RX11 TX11 24, w ∈ wsX11_act := fun w h => List.mem_cons_of_mem _ (List.mem_append_right _ h)
  have w_0 : Cond.fieldLink RX11 235 "LightManModel" "traced" "I" ∈ wsX11_act := List.mem_of_getElem? (i := 1) rfl
  have w_1 : Cond.fieldLink RX11 47 "LightManModel" "heldOne" "[I" ∈ wsX11_act := List.mem_of_getElem? (i := 2) rfl
  have w_2 : Cond.fieldLink RX11 244 "LightManModel" "own" "I" ∈ wsX11_act := List.mem_of_getElem? (i := 3) rfl
  have w_3 : Cond.fieldLink RX11 253 "LightManModel" "isParted" "Z" ∈ wsX11_act := List.mem_of_getElem? (i := 4) rfl
  refine lv_aload_n hx hb dX11_act_0 rfl (lv_at hl 0 rfl) ?_
  refine lv_iconst (v := 0) hx hb dX11_act_1 (by decide) ?_
  refine rp hf hk hw hinX11 tyX11 tyX11_ok nmX11 0 rfl rfl 21 (by decide) w_0 rfl (rfl) rfl (Nat.le_of_ble_eq_true rfl) dX11_act_2 (W' := [cob oh 11 [.ref os, .ref ok, .ref ol, .ref ord, .int isk, .ref odd, .ref otp, .int (nI tpd), .ref olt, .int oat, .int obg, .int otk, .int ovl, .ref orw, .int (nI rmn), .ref oso, .ref osz, .ref oit, .ref oho, .ref ohe, .ref otr, .int 0, .int own_, .int opt], cin g os 51 (mR stp laws z cnt fogs arms kinds faiths places moved), cin g oho 4 hds, cin g ohe 4 hdo, cin g otr 30 trc]) rfl (fun H locs hw => ?_)
  refine lv_iload_n hx hb dX11_act_5 rfl (lv_at hl 1 rfl) ?_
  refine mcS hf hk hst hw (c_X11_isSheet l g shelf) (va_cwS 1 hts gX11_act_X11_isSheet rfl rfl rfl hdS_X11_isSheet ⟨Nat.le_of_ble_eq_true rfl, Nat.le_of_ble_eq_true rfl⟩) [] rfl rfl rfl hl.1 rfl (Nat.le_of_ble_eq_true rfl) dX11_act_6 ⟨Nat.zero_le _, Nat.zero_le _⟩ (W' := [cob oh 11 [.ref os, .ref ok, .ref ol, .ref ord, .int isk, .ref odd, .ref otp, .int (nI tpd), .ref olt, .int oat, .int obg, .int otk, .int ovl, .ref orw, .int (nI rmn), .ref oso, .ref osz, .ref oit, .ref oho, .ref ohe, .ref otr, .int 0, .int own_, .int opt], cin g os 51 (mR stp laws z cnt fogs arms kinds faiths places moved), cin g oho 4 hds, cin g ohe 4 hdo, cin g otr 30 trc]) rfl (fun H locs hw => ?_)
  refine lv_if_eq (tgt := 29) hx hb dX11_act_9 (by decide) (fun c_1 => ?_) (fun c_1 => ?_)
  · refine lv_iconst (v := 0) hx hb dX11_act_29 (by decide) ?_
    exact rE_i hf hr hlk hw ⟨congrArg some (by simp only [f_X11_act, if_pos c_1]), by simp only [f_X11_act_w1, f_X11_act_w2, f_X11_act_w3, f_X11_act_w4, if_pos c_1]⟩ (show ([oh, os, oho, ohe, otr] : List Nat) = [oh, os, oho, ohe, otr] from rfl) dX11_act_30
  · have hs := out_n (N := 3) (by decide) (nO_1 c_1)
    have hs2 := hs.2
    refine lv_iload_n hx hb dX11_act_12 rfl (lv_at hl 2 rfl) ?_
    refine lv_iconst (v := 0) hx hb dX11_act_13 (by decide) ?_
    refine lv_iconst (v := 3) hx hb dX11_act_14 (by decide) ?_
    refine mcS hf hk hst hw (c_X11_in1 l g act 0 3) (va_cwS 3 hts gX11_act_X11_in1 rfl rfl rfl hdS_X11_in1 ⟨Nat.le_of_ble_eq_true rfl, Nat.le_of_ble_eq_true rfl⟩) [] rfl rfl rfl hl.1 rfl (Nat.le_of_ble_eq_true rfl) dX11_act_15 ⟨Nat.zero_le _, Nat.zero_le _⟩ (W' := [cob oh 11 [.ref os, .ref ok, .ref ol, .ref ord, .int isk, .ref odd, .ref otp, .int (nI tpd), .ref olt, .int oat, .int obg, .int otk, .int ovl, .ref orw, .int (nI rmn), .ref oso, .ref osz, .ref oit, .ref oho, .ref ohe, .ref otr, .int 0, .int own_, .int opt], cin g os 51 (mR stp laws z cnt fogs arms kinds faiths places moved), cin g oho 4 hds, cin g ohe 4 hdo, cin g otr 30 trc]) rfl (fun H locs hw => ?_)
    refine lv_if_eq (tgt := 29) hx hb dX11_act_18 (by decide) (fun c_2 => ?_) (fun c_2 => ?_)
    · refine lv_iconst (v := 0) hx hb dX11_act_29 (by decide) ?_
      exact rE_i hf hr hlk hw ⟨congrArg some (by simp only [f_X11_act, if_neg c_1, if_pos c_2]), by simp only [f_X11_act_w1, f_X11_act_w2, f_X11_act_w3, f_X11_act_w4, if_neg c_1, if_pos c_2]⟩ (show ([oh, os, oho, ohe, otr] : List Nat) = [oh, os, oho, ohe, otr] from rfl) dX11_act_30
    · refine lv_aload_n hx hb dX11_act_21 rfl (lv_at hl 0 rfl) ?_
      refine lv_iload_n hx hb dX11_act_22 rfl (lv_at hl 1 rfl) ?_
      refine lv_tope (y := nI (ix shelf)) hs.1 ?_
      refine mcV hf hk hst hw (c_X11_heldOn l g oh os ok ol ord odd otp olt orw oso osz oit oho ohe otr stp laws z cnt fogs arms kinds faiths places moved isk tpd oat obg otk ovl rmn 0 own_ opt hds hdo (ix shelf) (by omega) (by omega)) (cwV 1 hts gX11_act_X11_heldOn rfl rfl rfl hdV_X11_heldOn ⟨Nat.le_of_ble_eq_true rfl, Nat.le_of_ble_eq_true rfl⟩) [0, 1, 2, 3] rfl rfl 0 rfl rfl rfl hl.1 rfl (Nat.le_of_ble_eq_true rfl) dX11_act_23 ⟨Nat.zero_le _, Nat.zero_le _⟩ (W' := [cob oh 11 [.ref os, .ref ok, .ref ol, .ref ord, .int isk, .ref odd, .ref otp, .int (nI tpd), .ref olt, .int oat, .int obg, .int otk, .int ovl, .ref orw, .int (nI rmn), .ref oso, .ref osz, .ref oit, .ref oho, .ref ohe, .ref otr, .int (nI 0), .int own_, .int opt], cin g os 51 (mR stp laws z cnt fogs arms kinds faiths places moved), cin g oho 4 hds, cin g ohe 4 hdo, cin g otr 30 trc]) rfl (fun H locs hw => ?_)
      refine lv_if_eq (tgt := 31) hx hb dX11_act_26 (by decide) (fun c_3 => ?_) (fun c_3 => ?_)
      · have hg := ho_ok hc8 c_3
        have hg2 := hg.2
        refine lv_aload_n hx hb dX11_act_31 rfl (lv_at hl 0 rfl) ?_
        refine lv_aload_n hx hb dX11_act_32 rfl (lv_at hl 0 rfl) ?_
        refine rg hf hk hw hinX11 0 rfl rfl 19 (by decide) w_1 rfl dX11_act_33 ?_
        refine lv_iload_n hx hb dX11_act_36 rfl (lv_at hl 1 rfl) ?_
        refine lv_tope (y := nI (ix shelf)) hs.1 ?_
        refine rij hf hk hw 3 rfl (j := ix shelf) (vp_in_nI (by omega) (by omega)) (nI_clamp (by omega)) dX11_act_37 ?_
        refine lv_tope (y := nI (ix (hdo (ix shelf)))) (hg.1) ?_
        refine rp hf hk hw hinX11 tyX11 tyX11_ok nmX11 0 rfl rfl 22 (by decide) w_2 rfl (rfl) rfl (Nat.le_of_ble_eq_true rfl) dX11_act_38 (W' := [cob oh 11 [.ref os, .ref ok, .ref ol, .ref ord, .int isk, .ref odd, .ref otp, .int (nI tpd), .ref olt, .int oat, .int obg, .int otk, .int ovl, .ref orw, .int (nI rmn), .ref oso, .ref osz, .ref oit, .ref oho, .ref ohe, .ref otr, .int (nI 0), .int (nI (ix (hdo (ix shelf)))), .int opt], cin g os 51 (mR stp laws z cnt fogs arms kinds faiths places moved), cin g oho 4 hds, cin g ohe 4 hdo, cin g otr 30 trc]) rfl (fun H locs hw => ?_)
        refine lv_aload_n hx hb dX11_act_41 rfl (lv_at hl 0 rfl) ?_
        refine lv_iconst (v := 0) hx hb dX11_act_42 (by decide) ?_
        refine rp hf hk hw hinX11 tyX11 tyX11_ok nmX11 0 rfl rfl 23 (by decide) w_3 rfl (rfl) rfl (Nat.le_of_ble_eq_true rfl) dX11_act_43 (W' := [cob oh 11 [.ref os, .ref ok, .ref ol, .ref ord, .int isk, .ref odd, .ref otp, .int (nI tpd), .ref olt, .int oat, .int obg, .int otk, .int ovl, .ref orw, .int (nI rmn), .ref oso, .ref osz, .ref oit, .ref oho, .ref ohe, .ref otr, .int (nI 0), .int (nI (ix (hdo (ix shelf)))), .int 0], cin g os 51 (mR stp laws z cnt fogs arms kinds faiths places moved), cin g oho 4 hds, cin g ohe 4 hdo, cin g otr 30 trc]) rfl (fun H locs hw => ?_)
        refine lv_aload_n hx hb dX11_act_46 rfl (lv_at hl 0 rfl) ?_
        refine lv_aload_n hx hb dX11_act_47 rfl (lv_at hl 0 rfl) ?_
        refine rg hf hk hw hinX11 0 rfl rfl 22 (by decide) w_2 rfl dX11_act_48 ?_
        refine lv_iconst (v := 0) hx hb dX11_act_51 (by decide) ?_
        refine mcV hf hk hst hw (c_X11_get0 l g oh os ok ol ord odd otp olt orw oso osz oit oho ohe otr stp laws z cnt fogs arms kinds faiths places moved isk tpd oat obg otk ovl rmn 0 (nI (ix (hdo (ix shelf)))) 0 (ix (hdo (ix shelf))) (by omega)) (cwV 2 hts gX11_act_X11_get rfl rfl rfl hdV_X11_get ⟨Nat.le_of_ble_eq_true rfl, Nat.le_of_ble_eq_true rfl⟩) [0, 1] rfl rfl 0 rfl rfl rfl hl.1 rfl (Nat.le_of_ble_eq_true rfl) dX11_act_52 ⟨Nat.zero_le _, Nat.zero_le _⟩ (W' := [cob oh 11 [.ref os, .ref ok, .ref ol, .ref ord, .int isk, .ref odd, .ref otp, .int (nI tpd), .ref olt, .int oat, .int obg, .int otk, .int ovl, .ref orw, .int (nI rmn), .ref oso, .ref osz, .ref oit, .ref oho, .ref ohe, .ref otr, .int (nI 0), .int (nI (ix (hdo (ix shelf)))), .int 0], cin g os 51 (mR stp laws z cnt fogs arms kinds faiths places moved), cin g oho 4 hds, cin g ohe 4 hdo, cin g otr 30 trc]) rfl (fun H locs hw => ?_)
        rcases (hkd _ hg2) with e_4 | e_4 | e_4 | e_4 | e_4 | e_4
        · refine lv_tope (y := 0) e_4 ?_
          refine lv_istore (lv' := [(4, .int 0), (0, .ref oh), (1, .int shelf), (2, .int act), (3, .int x)]) hx hb dX11_act_55 hl (by decide) rfl (fun ls hl => ?_)
          refine lv_iload_n hx hb dX11_act_57 rfl (lv_at hl 3 rfl) ?_
          refine lv_if_ne (tgt := 71) hx hb dX11_act_58 (by decide) (fun c_5 => ?_) (fun c_5 => ?_)
          · refine lv_iload_n hx hb dX11_act_71 rfl (lv_at hl 3 rfl) ?_
            refine lv_iconst (v := 1) hx hb dX11_act_72 (by decide) ?_
            refine lv_icmp_ne (tgt := 86) hx hb dX11_act_73 (by decide) (fun c_6 => ?_) (fun c_6 => ?_)
            · refine lv_iload_n hx hb dX11_act_86 rfl (lv_at hl 3 rfl) ?_
              refine lv_iconst (v := 2) hx hb dX11_act_87 (by decide) ?_
              refine lv_icmp_ne (tgt := 101) hx hb dX11_act_88 (by decide) (fun c_7 => ?_) (fun c_7 => ?_)
              · refine lv_aload_n hx hb dX11_act_101 rfl (lv_at hl 1 rfl) ?_
                refine lv_iload hx hb dX11_act_102 (lv_at hl 0 rfl) ?_
                refine lv_iload_n hx hb dX11_act_104 rfl (lv_at hl 4 rfl) ?_
                refine mcV hf hk hst hw (c_X11_comesAs_0_0 l g oh os ok ol ord odd otp olt orw oso osz oit oho ohe otr stp laws z cnt fogs arms kinds faiths places moved isk tpd oat obg otk ovl rmn 0 trc (ix (hdo (ix shelf))) x (by omega) (e_4) (by first | omega | ((repeat apply tr1_le); dsimp only; omega))) (cwV 2 hts gX11_act_X11_comesAs rfl rfl rfl hdV_X11_comesAs ⟨Nat.le_of_ble_eq_true rfl, Nat.le_of_ble_eq_true rfl⟩) [0, 1, 4] rfl rfl 0 rfl rfl rfl hl.1 rfl (Nat.le_of_ble_eq_true rfl) dX11_act_105 ⟨Nat.zero_le _, Nat.zero_le _⟩ (W' := [cob oh 11 [.ref os, .ref ok, .ref ol, .ref ord, .int isk, .ref odd, .ref otp, .int (nI tpd), .ref olt, .int oat, .int obg, .int otk, .int ovl, .ref orw, .int (nI rmn), .ref oso, .ref osz, .ref oit, .ref oho, .ref ohe, .ref otr, .int (nI (tr1 (tr1 (tr1 (0, trc) 13) 11) 10).1), .int (nI (ix (hdo (ix shelf)))), .int 0], cin g os 51 (mR stp laws z cnt fogs arms kinds faiths places moved), cin g oho 4 hds, cin g ohe 4 hdo, cin g otr 30 ((tr1 (tr1 (tr1 (0, trc) 13) 11) 10).2)]) rfl (fun H locs hw => ?_)
                refine lv_istore (lv' := [(5, .int ((((x * 3) - (nI (ix (hdo (ix shelf))))) + ((places (ix (hdo (ix shelf)))) * 6)) ^^^ 200)), (4, .int 0), (0, .ref oh), (1, .int shelf), (2, .int act), (3, .int x)]) hx hb dX11_act_108 hl (by decide) rfl (fun ls hl => ?_)
                refine lv_aload_n hx hb dX11_act_110 rfl (lv_at hl 2 rfl) ?_
                refine rg hf hk hw hinX11 0 rfl rfl 23 (by decide) w_3 rfl dX11_act_111 ?_
                refine lv_if_eq (tgt := 122) hx hb dX11_act_114 (by decide) (fun _ => ?_) (fun q => absurd (by decide) q)
                refine lv_iload hx hb dX11_act_122 (lv_at hl 0 rfl) ?_
                exact rE_i hf hr hlk hw ⟨congrArg some (by simp only [f_X11_act, if_neg c_1, if_neg c_2, if_pos c_3, if_neg c_5, if_neg c_6, if_neg c_7]; rw [e_4] <;> rfl), by simp only [f_X11_act_w1, f_X11_act_w2, f_X11_act_w3, f_X11_act_w4, if_neg c_1, if_neg c_2, if_pos c_3, if_neg c_5, if_neg c_6, if_neg c_7]; rw [e_4] <;> rfl⟩ (show ([oh, os, oho, ohe, otr] : List Nat) = [oh, os, oho, ohe, otr] from rfl) dX11_act_124
              · refine lv_aload_n hx hb dX11_act_91 rfl (lv_at hl 1 rfl) ?_
                refine lv_iload hx hb dX11_act_92 (lv_at hl 0 rfl) ?_
                refine lv_iload_n hx hb dX11_act_94 rfl (lv_at hl 4 rfl) ?_
                refine mcV hf hk hst hw (c_X11_partsAs_0_0 l g oh os ok ol ord odd otp olt orw oso osz oit oho ohe otr stp laws z cnt fogs arms kinds faiths places moved isk tpd oat obg otk ovl rmn 0 trc (ix (hdo (ix shelf))) x (by omega) (e_4) (by first | omega | ((repeat apply tr1_le); dsimp only; omega))) (cwV 2 hts gX11_act_X11_partsAs rfl rfl rfl hdV_X11_partsAs ⟨Nat.le_of_ble_eq_true rfl, Nat.le_of_ble_eq_true rfl⟩) [0, 1, 4] rfl rfl 0 rfl rfl rfl hl.1 rfl (Nat.le_of_ble_eq_true rfl) dX11_act_95 ⟨Nat.zero_le _, Nat.zero_le _⟩ (W' := [cob oh 11 [.ref os, .ref ok, .ref ol, .ref ord, .int isk, .ref odd, .ref otp, .int (nI tpd), .ref olt, .int oat, .int obg, .int otk, .int ovl, .ref orw, .int (nI rmn), .ref oso, .ref osz, .ref oit, .ref oho, .ref ohe, .ref otr, .int (nI (tr1 (0, trc) 12).1), .int (nI (ix (hdo (ix shelf)))), .int (brk (nI (ix (hdo (ix shelf)))) (places (ix (hdo (ix shelf)))) 0)], cin g os 51 (mR stp laws z cnt fogs arms kinds faiths places moved), cin g oho 4 hds, cin g ohe 4 hdo, cin g otr 30 ((tr1 (0, trc) 12).2)]) rfl (fun H locs hw => ?_)
                refine lv_goto (tgt := 108) hx hb dX11_act_98 (by decide) ?_
                refine lv_istore (lv' := [(5, .int (prt (nI (ix (hdo (ix shelf)))) (places (ix (hdo (ix shelf)))) x)), (4, .int 0), (0, .ref oh), (1, .int shelf), (2, .int act), (3, .int x)]) hx hb dX11_act_108 hl (by decide) rfl (fun ls hl => ?_)
                refine lv_aload_n hx hb dX11_act_110 rfl (lv_at hl 2 rfl) ?_
                refine rg hf hk hw hinX11 0 rfl rfl 23 (by decide) w_3 rfl dX11_act_111 ?_
                refine lv_if_eq (tgt := 122) hx hb dX11_act_114 (by decide) (fun c_8 => ?_) (fun c_8 => ?_)
                · refine lv_iload hx hb dX11_act_122 (lv_at hl 0 rfl) ?_
                  exact rE_i hf hr hlk hw ⟨congrArg some (by simp only [f_X11_act, if_neg c_1, if_neg c_2, if_pos c_3, if_neg c_5, if_neg c_6, if_pos c_7, if_pos c_8]; rw [e_4] <;> rfl), by simp only [f_X11_act_w1, f_X11_act_w2, f_X11_act_w3, f_X11_act_w4, if_neg c_1, if_neg c_2, if_pos c_3, if_neg c_5, if_neg c_6, if_pos c_7, if_pos c_8]; rw [e_4] <;> rfl⟩ (show ([oh, os, oho, ohe, otr] : List Nat) = [oh, os, oho, ohe, otr] from rfl) dX11_act_124
                · refine lv_bipush (v := (-15)) hx hb dX11_act_117 (by decide) ?_
                  refine lv_goto (tgt := 124) hx hb dX11_act_119 (by decide) ?_
                  exact rE_i hf hr hlk hw ⟨congrArg some (by simp only [f_X11_act, if_neg c_1, if_neg c_2, if_pos c_3, if_neg c_5, if_neg c_6, if_pos c_7, if_neg c_8]; rw [e_4] <;> rfl), by simp only [f_X11_act_w1, f_X11_act_w2, f_X11_act_w3, f_X11_act_w4, if_neg c_1, if_neg c_2, if_pos c_3, if_neg c_5, if_neg c_6, if_pos c_7, if_neg c_8]; rw [e_4] <;> rfl⟩ (show ([oh, os, oho, ohe, otr] : List Nat) = [oh, os, oho, ohe, otr] from rfl) dX11_act_124
            · refine lv_aload_n hx hb dX11_act_76 rfl (lv_at hl 1 rfl) ?_
              refine lv_iload hx hb dX11_act_77 (lv_at hl 0 rfl) ?_
              refine lv_iload_n hx hb dX11_act_79 rfl (lv_at hl 4 rfl) ?_
              refine mcV hf hk hst hw (c_X11_walksAs_0_0 l g oh os ok ol ord odd otp olt orw oso osz oit oho ohe otr stp laws z cnt fogs arms kinds faiths places moved isk tpd oat obg otk ovl rmn 0 0 trc (ix (hdo (ix shelf))) x (by omega) (e_4) (by first | omega | ((repeat apply tr1_le); dsimp only; omega))) (cwV 2 hts gX11_act_X11_walksAs rfl rfl rfl hdV_X11_walksAs ⟨Nat.le_of_ble_eq_true rfl, Nat.le_of_ble_eq_true rfl⟩) [0, 1, 4] rfl rfl 0 rfl rfl rfl hl.1 rfl (Nat.le_of_ble_eq_true rfl) dX11_act_80 ⟨Nat.zero_le _, Nat.zero_le _⟩ (W' := [cob oh 11 [.ref os, .ref ok, .ref ol, .ref ord, .int isk, .ref odd, .ref otp, .int (nI tpd), .ref olt, .int oat, .int obg, .int otk, .int ovl, .ref orw, .int (nI rmn), .ref oso, .ref osz, .ref oit, .ref oho, .ref ohe, .ref otr, .int (nI (tr1 (tr1 (0, trc) 11) 10).1), .int (nI (ix (hdo (ix shelf)))), .int 0], cin g os 51 (mR stp laws z cnt fogs arms kinds faiths places moved), cin g oho 4 hds, cin g ohe 4 hdo, cin g otr 30 ((tr1 (tr1 (0, trc) 11) 10).2)]) rfl (fun H locs hw => ?_)
              refine lv_goto (tgt := 108) hx hb dX11_act_83 (by decide) ?_
              refine lv_istore (lv' := [(5, .int (((x * 3) - (nI (ix (hdo (ix shelf))))) + ((places (ix (hdo (ix shelf)))) * 6))), (4, .int 0), (0, .ref oh), (1, .int shelf), (2, .int act), (3, .int x)]) hx hb dX11_act_108 hl (by decide) rfl (fun ls hl => ?_)
              refine lv_aload_n hx hb dX11_act_110 rfl (lv_at hl 2 rfl) ?_
              refine rg hf hk hw hinX11 0 rfl rfl 23 (by decide) w_3 rfl dX11_act_111 ?_
              refine lv_if_eq (tgt := 122) hx hb dX11_act_114 (by decide) (fun _ => ?_) (fun q => absurd (by decide) q)
              refine lv_iload hx hb dX11_act_122 (lv_at hl 0 rfl) ?_
              exact rE_i hf hr hlk hw ⟨congrArg some (by simp only [f_X11_act, if_neg c_1, if_neg c_2, if_pos c_3, if_neg c_5, if_pos c_6]; rw [e_4] <;> rfl), by simp only [f_X11_act_w1, f_X11_act_w2, f_X11_act_w3, f_X11_act_w4, if_neg c_1, if_neg c_2, if_pos c_3, if_neg c_5, if_pos c_6]; rw [e_4] <;> rfl⟩ (show ([oh, os, oho, ohe, otr] : List Nat) = [oh, os, oho, ohe, otr] from rfl) dX11_act_124
          · refine lv_aload_n hx hb dX11_act_61 rfl (lv_at hl 1 rfl) ?_
            refine lv_iload hx hb dX11_act_62 (lv_at hl 0 rfl) ?_
            refine lv_iload_n hx hb dX11_act_64 rfl (lv_at hl 4 rfl) ?_
            refine mcV hf hk hst hw (c_X11_looksAs_0_0 l g oh os ok ol ord odd otp olt orw oso osz oit oho ohe otr stp laws z cnt fogs arms kinds faiths places moved isk tpd oat obg otk ovl rmn 0 0 trc (ix (hdo (ix shelf))) x (by omega) (e_4) (by first | omega | ((repeat apply tr1_le); dsimp only; omega))) (cwV 2 hts gX11_act_X11_looksAs rfl rfl rfl hdV_X11_looksAs ⟨Nat.le_of_ble_eq_true rfl, Nat.le_of_ble_eq_true rfl⟩) [0, 1, 4] rfl rfl 0 rfl rfl rfl hl.1 rfl (Nat.le_of_ble_eq_true rfl) dX11_act_65 ⟨Nat.zero_le _, Nat.zero_le _⟩ (W' := [cob oh 11 [.ref os, .ref ok, .ref ol, .ref ord, .int isk, .ref odd, .ref otp, .int (nI tpd), .ref olt, .int oat, .int obg, .int otk, .int ovl, .ref orw, .int (nI rmn), .ref oso, .ref osz, .ref oit, .ref oho, .ref ohe, .ref otr, .int (nI (tr1 (0, trc) 10).1), .int (nI (ix (hdo (ix shelf)))), .int 0], cin g os 51 (mR stp laws z cnt fogs arms kinds faiths places moved), cin g oho 4 hds, cin g ohe 4 hdo, cin g otr 30 ((tr1 (0, trc) 10).2)]) rfl (fun H locs hw => ?_)
            refine lv_goto (tgt := 108) hx hb dX11_act_68 (by decide) ?_
            refine lv_istore (lv' := [(5, .int ((x * 3) - (nI (ix (hdo (ix shelf)))))), (4, .int 0), (0, .ref oh), (1, .int shelf), (2, .int act), (3, .int x)]) hx hb dX11_act_108 hl (by decide) rfl (fun ls hl => ?_)
            refine lv_aload_n hx hb dX11_act_110 rfl (lv_at hl 2 rfl) ?_
            refine rg hf hk hw hinX11 0 rfl rfl 23 (by decide) w_3 rfl dX11_act_111 ?_
            refine lv_if_eq (tgt := 122) hx hb dX11_act_114 (by decide) (fun _ => ?_) (fun q => absurd (by decide) q)
            refine lv_iload hx hb dX11_act_122 (lv_at hl 0 rfl) ?_
            exact rE_i hf hr hlk hw ⟨congrArg some (by simp only [f_X11_act, if_neg c_1, if_neg c_2, if_pos c_3, if_pos c_5]; rw [e_4] <;> rfl), by simp only [f_X11_act_w1, f_X11_act_w2, f_X11_act_w3, f_X11_act_w4, if_neg c_1, if_neg c_2, if_pos c_3, if_pos c_5]; rw [e_4] <;> rfl⟩ (show ([oh, os, oho, ohe, otr] : List Nat) = [oh, os, oho, ohe, otr] from rfl) dX11_act_124
        · refine lv_tope (y := 1) e_4 ?_
          refine lv_istore (lv' := [(4, .int 1), (0, .ref oh), (1, .int shelf), (2, .int act), (3, .int x)]) hx hb dX11_act_55 hl (by decide) rfl (fun ls hl => ?_)
          refine lv_iload_n hx hb dX11_act_57 rfl (lv_at hl 3 rfl) ?_
          refine lv_if_ne (tgt := 71) hx hb dX11_act_58 (by decide) (fun c_9 => ?_) (fun c_9 => ?_)
          · refine lv_iload_n hx hb dX11_act_71 rfl (lv_at hl 3 rfl) ?_
            refine lv_iconst (v := 1) hx hb dX11_act_72 (by decide) ?_
            refine lv_icmp_ne (tgt := 86) hx hb dX11_act_73 (by decide) (fun c_10 => ?_) (fun c_10 => ?_)
            · refine lv_iload_n hx hb dX11_act_86 rfl (lv_at hl 3 rfl) ?_
              refine lv_iconst (v := 2) hx hb dX11_act_87 (by decide) ?_
              refine lv_icmp_ne (tgt := 101) hx hb dX11_act_88 (by decide) (fun c_11 => ?_) (fun c_11 => ?_)
              · refine lv_aload_n hx hb dX11_act_101 rfl (lv_at hl 1 rfl) ?_
                refine lv_iload hx hb dX11_act_102 (lv_at hl 0 rfl) ?_
                refine lv_iload_n hx hb dX11_act_104 rfl (lv_at hl 4 rfl) ?_
                refine mcV hf hk hst hw (c_X11_comesAs_1_1 l g oh os ok ol ord odd otp olt orw oso osz oit oho ohe otr stp laws z cnt fogs arms kinds faiths places moved isk tpd oat obg otk ovl rmn 0 trc (ix (hdo (ix shelf))) x (by omega) (e_4) (by first | omega | ((repeat apply tr1_le); dsimp only; omega))) (cwV 2 hts gX11_act_X11_comesAs rfl rfl rfl hdV_X11_comesAs ⟨Nat.le_of_ble_eq_true rfl, Nat.le_of_ble_eq_true rfl⟩) [0, 1, 4] rfl rfl 0 rfl rfl rfl hl.1 rfl (Nat.le_of_ble_eq_true rfl) dX11_act_105 ⟨Nat.zero_le _, Nat.zero_le _⟩ (W' := [cob oh 11 [.ref os, .ref ok, .ref ol, .ref ord, .int isk, .ref odd, .ref otp, .int (nI tpd), .ref olt, .int oat, .int obg, .int otk, .int ovl, .ref orw, .int (nI rmn), .ref oso, .ref osz, .ref oit, .ref oho, .ref ohe, .ref otr, .int (nI (tr1 (tr1 (tr1 (tr1 (0, trc) 13) 20) 11) 10).1), .int (nI (ix (hdo (ix shelf)))), .int 0], cin g os 51 (mR stp laws z cnt fogs arms kinds faiths places moved), cin g oho 4 hds, cin g ohe 4 hdo, cin g otr 30 ((tr1 (tr1 (tr1 (tr1 (0, trc) 13) 20) 11) 10).2)]) rfl (fun H locs hw => ?_)
                refine lv_istore (lv' := [(5, .int ((-(((x * 3) - (nI (ix (hdo (ix shelf))))) + ((places (ix (hdo (ix shelf)))) * 6))) ^^^ 200)), (4, .int 1), (0, .ref oh), (1, .int shelf), (2, .int act), (3, .int x)]) hx hb dX11_act_108 hl (by decide) rfl (fun ls hl => ?_)
                refine lv_aload_n hx hb dX11_act_110 rfl (lv_at hl 2 rfl) ?_
                refine rg hf hk hw hinX11 0 rfl rfl 23 (by decide) w_3 rfl dX11_act_111 ?_
                refine lv_if_eq (tgt := 122) hx hb dX11_act_114 (by decide) (fun _ => ?_) (fun q => absurd (by decide) q)
                refine lv_iload hx hb dX11_act_122 (lv_at hl 0 rfl) ?_
                exact rE_i hf hr hlk hw ⟨congrArg some (by simp only [f_X11_act, if_neg c_1, if_neg c_2, if_pos c_3, if_neg c_9, if_neg c_10, if_neg c_11]; rw [e_4] <;> rfl), by simp only [f_X11_act_w1, f_X11_act_w2, f_X11_act_w3, f_X11_act_w4, if_neg c_1, if_neg c_2, if_pos c_3, if_neg c_9, if_neg c_10, if_neg c_11]; rw [e_4] <;> rfl⟩ (show ([oh, os, oho, ohe, otr] : List Nat) = [oh, os, oho, ohe, otr] from rfl) dX11_act_124
              · refine lv_aload_n hx hb dX11_act_91 rfl (lv_at hl 1 rfl) ?_
                refine lv_iload hx hb dX11_act_92 (lv_at hl 0 rfl) ?_
                refine lv_iload_n hx hb dX11_act_94 rfl (lv_at hl 4 rfl) ?_
                refine mcV hf hk hst hw (c_X11_partsAs_1_1 l g oh os ok ol ord odd otp olt orw oso osz oit oho ohe otr stp laws z cnt fogs arms kinds faiths places moved isk tpd oat obg otk ovl rmn 0 trc (ix (hdo (ix shelf))) x (by omega) (e_4) (by first | omega | ((repeat apply tr1_le); dsimp only; omega))) (cwV 2 hts gX11_act_X11_partsAs rfl rfl rfl hdV_X11_partsAs ⟨Nat.le_of_ble_eq_true rfl, Nat.le_of_ble_eq_true rfl⟩) [0, 1, 4] rfl rfl 0 rfl rfl rfl hl.1 rfl (Nat.le_of_ble_eq_true rfl) dX11_act_95 ⟨Nat.zero_le _, Nat.zero_le _⟩ (W' := [cob oh 11 [.ref os, .ref ok, .ref ol, .ref ord, .int isk, .ref odd, .ref otp, .int (nI tpd), .ref olt, .int oat, .int obg, .int otk, .int ovl, .ref orw, .int (nI rmn), .ref oso, .ref osz, .ref oit, .ref oho, .ref ohe, .ref otr, .int (nI (tr1 (0, trc) 12).1), .int (nI (ix (hdo (ix shelf)))), .int (brk (nI (ix (hdo (ix shelf)))) (places (ix (hdo (ix shelf)))) 0)], cin g os 51 (mR stp laws z cnt fogs arms kinds faiths places moved), cin g oho 4 hds, cin g ohe 4 hdo, cin g otr 30 ((tr1 (0, trc) 12).2)]) rfl (fun H locs hw => ?_)
                refine lv_goto (tgt := 108) hx hb dX11_act_98 (by decide) ?_
                refine lv_istore (lv' := [(5, .int (prt (nI (ix (hdo (ix shelf)))) (places (ix (hdo (ix shelf)))) x)), (4, .int 1), (0, .ref oh), (1, .int shelf), (2, .int act), (3, .int x)]) hx hb dX11_act_108 hl (by decide) rfl (fun ls hl => ?_)
                refine lv_aload_n hx hb dX11_act_110 rfl (lv_at hl 2 rfl) ?_
                refine rg hf hk hw hinX11 0 rfl rfl 23 (by decide) w_3 rfl dX11_act_111 ?_
                refine lv_if_eq (tgt := 122) hx hb dX11_act_114 (by decide) (fun c_12 => ?_) (fun c_12 => ?_)
                · refine lv_iload hx hb dX11_act_122 (lv_at hl 0 rfl) ?_
                  exact rE_i hf hr hlk hw ⟨congrArg some (by simp only [f_X11_act, if_neg c_1, if_neg c_2, if_pos c_3, if_neg c_9, if_neg c_10, if_pos c_11, if_pos c_12]; rw [e_4] <;> rfl), by simp only [f_X11_act_w1, f_X11_act_w2, f_X11_act_w3, f_X11_act_w4, if_neg c_1, if_neg c_2, if_pos c_3, if_neg c_9, if_neg c_10, if_pos c_11, if_pos c_12]; rw [e_4] <;> rfl⟩ (show ([oh, os, oho, ohe, otr] : List Nat) = [oh, os, oho, ohe, otr] from rfl) dX11_act_124
                · refine lv_bipush (v := (-15)) hx hb dX11_act_117 (by decide) ?_
                  refine lv_goto (tgt := 124) hx hb dX11_act_119 (by decide) ?_
                  exact rE_i hf hr hlk hw ⟨congrArg some (by simp only [f_X11_act, if_neg c_1, if_neg c_2, if_pos c_3, if_neg c_9, if_neg c_10, if_pos c_11, if_neg c_12]; rw [e_4] <;> rfl), by simp only [f_X11_act_w1, f_X11_act_w2, f_X11_act_w3, f_X11_act_w4, if_neg c_1, if_neg c_2, if_pos c_3, if_neg c_9, if_neg c_10, if_pos c_11, if_neg c_12]; rw [e_4] <;> rfl⟩ (show ([oh, os, oho, ohe, otr] : List Nat) = [oh, os, oho, ohe, otr] from rfl) dX11_act_124
            · refine lv_aload_n hx hb dX11_act_76 rfl (lv_at hl 1 rfl) ?_
              refine lv_iload hx hb dX11_act_77 (lv_at hl 0 rfl) ?_
              refine lv_iload_n hx hb dX11_act_79 rfl (lv_at hl 4 rfl) ?_
              refine mcV hf hk hst hw (c_X11_walksAs_1_1 l g oh os ok ol ord odd otp olt orw oso osz oit oho ohe otr stp laws z cnt fogs arms kinds faiths places moved isk tpd oat obg otk ovl rmn 0 0 trc (ix (hdo (ix shelf))) x (by omega) (e_4) (by first | omega | ((repeat apply tr1_le); dsimp only; omega))) (cwV 2 hts gX11_act_X11_walksAs rfl rfl rfl hdV_X11_walksAs ⟨Nat.le_of_ble_eq_true rfl, Nat.le_of_ble_eq_true rfl⟩) [0, 1, 4] rfl rfl 0 rfl rfl rfl hl.1 rfl (Nat.le_of_ble_eq_true rfl) dX11_act_80 ⟨Nat.zero_le _, Nat.zero_le _⟩ (W' := [cob oh 11 [.ref os, .ref ok, .ref ol, .ref ord, .int isk, .ref odd, .ref otp, .int (nI tpd), .ref olt, .int oat, .int obg, .int otk, .int ovl, .ref orw, .int (nI rmn), .ref oso, .ref osz, .ref oit, .ref oho, .ref ohe, .ref otr, .int (nI (tr1 (tr1 (tr1 (0, trc) 20) 11) 10).1), .int (nI (ix (hdo (ix shelf)))), .int 0], cin g os 51 (mR stp laws z cnt fogs arms kinds faiths places moved), cin g oho 4 hds, cin g ohe 4 hdo, cin g otr 30 ((tr1 (tr1 (tr1 (0, trc) 20) 11) 10).2)]) rfl (fun H locs hw => ?_)
              refine lv_goto (tgt := 108) hx hb dX11_act_83 (by decide) ?_
              refine lv_istore (lv' := [(5, .int (-(((x * 3) - (nI (ix (hdo (ix shelf))))) + ((places (ix (hdo (ix shelf)))) * 6)))), (4, .int 1), (0, .ref oh), (1, .int shelf), (2, .int act), (3, .int x)]) hx hb dX11_act_108 hl (by decide) rfl (fun ls hl => ?_)
              refine lv_aload_n hx hb dX11_act_110 rfl (lv_at hl 2 rfl) ?_
              refine rg hf hk hw hinX11 0 rfl rfl 23 (by decide) w_3 rfl dX11_act_111 ?_
              refine lv_if_eq (tgt := 122) hx hb dX11_act_114 (by decide) (fun _ => ?_) (fun q => absurd (by decide) q)
              refine lv_iload hx hb dX11_act_122 (lv_at hl 0 rfl) ?_
              exact rE_i hf hr hlk hw ⟨congrArg some (by simp only [f_X11_act, if_neg c_1, if_neg c_2, if_pos c_3, if_neg c_9, if_pos c_10]; rw [e_4] <;> rfl), by simp only [f_X11_act_w1, f_X11_act_w2, f_X11_act_w3, f_X11_act_w4, if_neg c_1, if_neg c_2, if_pos c_3, if_neg c_9, if_pos c_10]; rw [e_4] <;> rfl⟩ (show ([oh, os, oho, ohe, otr] : List Nat) = [oh, os, oho, ohe, otr] from rfl) dX11_act_124
          · refine lv_aload_n hx hb dX11_act_61 rfl (lv_at hl 1 rfl) ?_
            refine lv_iload hx hb dX11_act_62 (lv_at hl 0 rfl) ?_
            refine lv_iload_n hx hb dX11_act_64 rfl (lv_at hl 4 rfl) ?_
            refine mcV hf hk hst hw (c_X11_looksAs_1_1 l g oh os ok ol ord odd otp olt orw oso osz oit oho ohe otr stp laws z cnt fogs arms kinds faiths places moved isk tpd oat obg otk ovl rmn 0 0 trc (ix (hdo (ix shelf))) x (by omega) (e_4) (by first | omega | ((repeat apply tr1_le); dsimp only; omega))) (cwV 2 hts gX11_act_X11_looksAs rfl rfl rfl hdV_X11_looksAs ⟨Nat.le_of_ble_eq_true rfl, Nat.le_of_ble_eq_true rfl⟩) [0, 1, 4] rfl rfl 0 rfl rfl rfl hl.1 rfl (Nat.le_of_ble_eq_true rfl) dX11_act_65 ⟨Nat.zero_le _, Nat.zero_le _⟩ (W' := [cob oh 11 [.ref os, .ref ok, .ref ol, .ref ord, .int isk, .ref odd, .ref otp, .int (nI tpd), .ref olt, .int oat, .int obg, .int otk, .int ovl, .ref orw, .int (nI rmn), .ref oso, .ref osz, .ref oit, .ref oho, .ref ohe, .ref otr, .int (nI (tr1 (0, trc) 10).1), .int (nI (ix (hdo (ix shelf)))), .int 0], cin g os 51 (mR stp laws z cnt fogs arms kinds faiths places moved), cin g oho 4 hds, cin g ohe 4 hdo, cin g otr 30 ((tr1 (0, trc) 10).2)]) rfl (fun H locs hw => ?_)
            refine lv_goto (tgt := 108) hx hb dX11_act_68 (by decide) ?_
            refine lv_istore (lv' := [(5, .int ((x * 3) - (nI (ix (hdo (ix shelf)))))), (4, .int 1), (0, .ref oh), (1, .int shelf), (2, .int act), (3, .int x)]) hx hb dX11_act_108 hl (by decide) rfl (fun ls hl => ?_)
            refine lv_aload_n hx hb dX11_act_110 rfl (lv_at hl 2 rfl) ?_
            refine rg hf hk hw hinX11 0 rfl rfl 23 (by decide) w_3 rfl dX11_act_111 ?_
            refine lv_if_eq (tgt := 122) hx hb dX11_act_114 (by decide) (fun _ => ?_) (fun q => absurd (by decide) q)
            refine lv_iload hx hb dX11_act_122 (lv_at hl 0 rfl) ?_
            exact rE_i hf hr hlk hw ⟨congrArg some (by simp only [f_X11_act, if_neg c_1, if_neg c_2, if_pos c_3, if_pos c_9]; rw [e_4] <;> rfl), by simp only [f_X11_act_w1, f_X11_act_w2, f_X11_act_w3, f_X11_act_w4, if_neg c_1, if_neg c_2, if_pos c_3, if_pos c_9]; rw [e_4] <;> rfl⟩ (show ([oh, os, oho, ohe, otr] : List Nat) = [oh, os, oho, ohe, otr] from rfl) dX11_act_124
        · refine lv_tope (y := 2) e_4 ?_
          refine lv_istore (lv' := [(4, .int 2), (0, .ref oh), (1, .int shelf), (2, .int act), (3, .int x)]) hx hb dX11_act_55 hl (by decide) rfl (fun ls hl => ?_)
          refine lv_iload_n hx hb dX11_act_57 rfl (lv_at hl 3 rfl) ?_
          refine lv_if_ne (tgt := 71) hx hb dX11_act_58 (by decide) (fun c_13 => ?_) (fun c_13 => ?_)
          · refine lv_iload_n hx hb dX11_act_71 rfl (lv_at hl 3 rfl) ?_
            refine lv_iconst (v := 1) hx hb dX11_act_72 (by decide) ?_
            refine lv_icmp_ne (tgt := 86) hx hb dX11_act_73 (by decide) (fun c_14 => ?_) (fun c_14 => ?_)
            · refine lv_iload_n hx hb dX11_act_86 rfl (lv_at hl 3 rfl) ?_
              refine lv_iconst (v := 2) hx hb dX11_act_87 (by decide) ?_
              refine lv_icmp_ne (tgt := 101) hx hb dX11_act_88 (by decide) (fun c_15 => ?_) (fun c_15 => ?_)
              · refine lv_aload_n hx hb dX11_act_101 rfl (lv_at hl 1 rfl) ?_
                refine lv_iload hx hb dX11_act_102 (lv_at hl 0 rfl) ?_
                refine lv_iload_n hx hb dX11_act_104 rfl (lv_at hl 4 rfl) ?_
                refine mcV hf hk hst hw (c_X11_comesAs_2_2 l g oh os ok ol ord odd otp olt orw oso osz oit oho ohe otr stp laws z cnt fogs arms kinds faiths places moved isk tpd oat obg otk ovl rmn 0 trc (ix (hdo (ix shelf))) x (by omega) (e_4) (by first | omega | ((repeat apply tr1_le); dsimp only; omega))) (cwV 2 hts gX11_act_X11_comesAs rfl rfl rfl hdV_X11_comesAs ⟨Nat.le_of_ble_eq_true rfl, Nat.le_of_ble_eq_true rfl⟩) [0, 1, 4] rfl rfl 0 rfl rfl rfl hl.1 rfl (Nat.le_of_ble_eq_true rfl) dX11_act_105 ⟨Nat.zero_le _, Nat.zero_le _⟩ (W' := [cob oh 11 [.ref os, .ref ok, .ref ol, .ref ord, .int isk, .ref odd, .ref otp, .int (nI tpd), .ref olt, .int oat, .int obg, .int otk, .int ovl, .ref orw, .int (nI rmn), .ref oso, .ref osz, .ref oit, .ref oho, .ref ohe, .ref otr, .int (nI (tr1 (tr1 (tr1 (tr1 (tr1 (tr1 (0, trc) 31) 13) 11) 30) 10) 12).1), .int (nI (ix (hdo (ix shelf)))), .int (brk (nI (ix (hdo (ix shelf)))) (places (ix (hdo (ix shelf)))) 0)], cin g os 51 (mR stp laws z cnt fogs arms kinds faiths places moved), cin g oho 4 hds, cin g ohe 4 hdo, cin g otr 30 ((tr1 (tr1 (tr1 (tr1 (tr1 (tr1 (0, trc) 31) 13) 11) 30) 10) 12).2)]) rfl (fun H locs hw => ?_)
                refine lv_istore (lv' := [(5, .int ((((((x * 3) - (nI (ix (hdo (ix shelf))))) * 2) + ((places (ix (hdo (ix shelf)))) * 6)) ^^^ 200) + (prt (nI (ix (hdo (ix shelf)))) (places (ix (hdo (ix shelf)))) (nI (ix (hdo (ix shelf))))))), (4, .int 2), (0, .ref oh), (1, .int shelf), (2, .int act), (3, .int x)]) hx hb dX11_act_108 hl (by decide) rfl (fun ls hl => ?_)
                refine lv_aload_n hx hb dX11_act_110 rfl (lv_at hl 2 rfl) ?_
                refine rg hf hk hw hinX11 0 rfl rfl 23 (by decide) w_3 rfl dX11_act_111 ?_
                refine lv_if_eq (tgt := 122) hx hb dX11_act_114 (by decide) (fun c_16 => ?_) (fun c_16 => ?_)
                · refine lv_iload hx hb dX11_act_122 (lv_at hl 0 rfl) ?_
                  exact rE_i hf hr hlk hw ⟨congrArg some (by simp only [f_X11_act, if_neg c_1, if_neg c_2, if_pos c_3, if_neg c_13, if_neg c_14, if_neg c_15, if_pos c_16]; rw [e_4] <;> rfl), by simp only [f_X11_act_w1, f_X11_act_w2, f_X11_act_w3, f_X11_act_w4, if_neg c_1, if_neg c_2, if_pos c_3, if_neg c_13, if_neg c_14, if_neg c_15, if_pos c_16]; rw [e_4] <;> rfl⟩ (show ([oh, os, oho, ohe, otr] : List Nat) = [oh, os, oho, ohe, otr] from rfl) dX11_act_124
                · refine lv_bipush (v := (-15)) hx hb dX11_act_117 (by decide) ?_
                  refine lv_goto (tgt := 124) hx hb dX11_act_119 (by decide) ?_
                  exact rE_i hf hr hlk hw ⟨congrArg some (by simp only [f_X11_act, if_neg c_1, if_neg c_2, if_pos c_3, if_neg c_13, if_neg c_14, if_neg c_15, if_neg c_16]; rw [e_4] <;> rfl), by simp only [f_X11_act_w1, f_X11_act_w2, f_X11_act_w3, f_X11_act_w4, if_neg c_1, if_neg c_2, if_pos c_3, if_neg c_13, if_neg c_14, if_neg c_15, if_neg c_16]; rw [e_4] <;> rfl⟩ (show ([oh, os, oho, ohe, otr] : List Nat) = [oh, os, oho, ohe, otr] from rfl) dX11_act_124
              · refine lv_aload_n hx hb dX11_act_91 rfl (lv_at hl 1 rfl) ?_
                refine lv_iload hx hb dX11_act_92 (lv_at hl 0 rfl) ?_
                refine lv_iload_n hx hb dX11_act_94 rfl (lv_at hl 4 rfl) ?_
                refine mcV hf hk hst hw (c_X11_partsAs_2_2 l g oh os ok ol ord odd otp olt orw oso osz oit oho ohe otr stp laws z cnt fogs arms kinds faiths places moved isk tpd oat obg otk ovl rmn 0 trc (ix (hdo (ix shelf))) x (by omega) (e_4) (by first | omega | ((repeat apply tr1_le); dsimp only; omega))) (cwV 2 hts gX11_act_X11_partsAs rfl rfl rfl hdV_X11_partsAs ⟨Nat.le_of_ble_eq_true rfl, Nat.le_of_ble_eq_true rfl⟩) [0, 1, 4] rfl rfl 0 rfl rfl rfl hl.1 rfl (Nat.le_of_ble_eq_true rfl) dX11_act_95 ⟨Nat.zero_le _, Nat.zero_le _⟩ (W' := [cob oh 11 [.ref os, .ref ok, .ref ol, .ref ord, .int isk, .ref odd, .ref otp, .int (nI tpd), .ref olt, .int oat, .int obg, .int otk, .int ovl, .ref orw, .int (nI rmn), .ref oso, .ref osz, .ref oit, .ref oho, .ref ohe, .ref otr, .int (nI (tr1 (0, trc) 12).1), .int (nI (ix (hdo (ix shelf)))), .int (brk (nI (ix (hdo (ix shelf)))) (places (ix (hdo (ix shelf)))) 0)], cin g os 51 (mR stp laws z cnt fogs arms kinds faiths places moved), cin g oho 4 hds, cin g ohe 4 hdo, cin g otr 30 ((tr1 (0, trc) 12).2)]) rfl (fun H locs hw => ?_)
                refine lv_goto (tgt := 108) hx hb dX11_act_98 (by decide) ?_
                refine lv_istore (lv' := [(5, .int (prt (nI (ix (hdo (ix shelf)))) (places (ix (hdo (ix shelf)))) x)), (4, .int 2), (0, .ref oh), (1, .int shelf), (2, .int act), (3, .int x)]) hx hb dX11_act_108 hl (by decide) rfl (fun ls hl => ?_)
                refine lv_aload_n hx hb dX11_act_110 rfl (lv_at hl 2 rfl) ?_
                refine rg hf hk hw hinX11 0 rfl rfl 23 (by decide) w_3 rfl dX11_act_111 ?_
                refine lv_if_eq (tgt := 122) hx hb dX11_act_114 (by decide) (fun c_17 => ?_) (fun c_17 => ?_)
                · refine lv_iload hx hb dX11_act_122 (lv_at hl 0 rfl) ?_
                  exact rE_i hf hr hlk hw ⟨congrArg some (by simp only [f_X11_act, if_neg c_1, if_neg c_2, if_pos c_3, if_neg c_13, if_neg c_14, if_pos c_15, if_pos c_17]; rw [e_4] <;> rfl), by simp only [f_X11_act_w1, f_X11_act_w2, f_X11_act_w3, f_X11_act_w4, if_neg c_1, if_neg c_2, if_pos c_3, if_neg c_13, if_neg c_14, if_pos c_15, if_pos c_17]; rw [e_4] <;> rfl⟩ (show ([oh, os, oho, ohe, otr] : List Nat) = [oh, os, oho, ohe, otr] from rfl) dX11_act_124
                · refine lv_bipush (v := (-15)) hx hb dX11_act_117 (by decide) ?_
                  refine lv_goto (tgt := 124) hx hb dX11_act_119 (by decide) ?_
                  exact rE_i hf hr hlk hw ⟨congrArg some (by simp only [f_X11_act, if_neg c_1, if_neg c_2, if_pos c_3, if_neg c_13, if_neg c_14, if_pos c_15, if_neg c_17]; rw [e_4] <;> rfl), by simp only [f_X11_act_w1, f_X11_act_w2, f_X11_act_w3, f_X11_act_w4, if_neg c_1, if_neg c_2, if_pos c_3, if_neg c_13, if_neg c_14, if_pos c_15, if_neg c_17]; rw [e_4] <;> rfl⟩ (show ([oh, os, oho, ohe, otr] : List Nat) = [oh, os, oho, ohe, otr] from rfl) dX11_act_124
            · refine lv_aload_n hx hb dX11_act_76 rfl (lv_at hl 1 rfl) ?_
              refine lv_iload hx hb dX11_act_77 (lv_at hl 0 rfl) ?_
              refine lv_iload_n hx hb dX11_act_79 rfl (lv_at hl 4 rfl) ?_
              refine mcV hf hk hst hw (c_X11_walksAs_2_2 l g oh os ok ol ord odd otp olt orw oso osz oit oho ohe otr stp laws z cnt fogs arms kinds faiths places moved isk tpd oat obg otk ovl rmn 0 0 trc (ix (hdo (ix shelf))) x (by omega) (e_4) (by first | omega | ((repeat apply tr1_le); dsimp only; omega))) (cwV 2 hts gX11_act_X11_walksAs rfl rfl rfl hdV_X11_walksAs ⟨Nat.le_of_ble_eq_true rfl, Nat.le_of_ble_eq_true rfl⟩) [0, 1, 4] rfl rfl 0 rfl rfl rfl hl.1 rfl (Nat.le_of_ble_eq_true rfl) dX11_act_80 ⟨Nat.zero_le _, Nat.zero_le _⟩ (W' := [cob oh 11 [.ref os, .ref ok, .ref ol, .ref ord, .int isk, .ref odd, .ref otp, .int (nI tpd), .ref olt, .int oat, .int obg, .int otk, .int ovl, .ref orw, .int (nI rmn), .ref oso, .ref osz, .ref oit, .ref oho, .ref ohe, .ref otr, .int (nI (tr1 (tr1 (tr1 (0, trc) 11) 30) 10).1), .int (nI (ix (hdo (ix shelf)))), .int 0], cin g os 51 (mR stp laws z cnt fogs arms kinds faiths places moved), cin g oho 4 hds, cin g ohe 4 hdo, cin g otr 30 ((tr1 (tr1 (tr1 (0, trc) 11) 30) 10).2)]) rfl (fun H locs hw => ?_)
              refine lv_goto (tgt := 108) hx hb dX11_act_83 (by decide) ?_
              refine lv_istore (lv' := [(5, .int ((((x * 3) - (nI (ix (hdo (ix shelf))))) * 2) + ((places (ix (hdo (ix shelf)))) * 6))), (4, .int 2), (0, .ref oh), (1, .int shelf), (2, .int act), (3, .int x)]) hx hb dX11_act_108 hl (by decide) rfl (fun ls hl => ?_)
              refine lv_aload_n hx hb dX11_act_110 rfl (lv_at hl 2 rfl) ?_
              refine rg hf hk hw hinX11 0 rfl rfl 23 (by decide) w_3 rfl dX11_act_111 ?_
              refine lv_if_eq (tgt := 122) hx hb dX11_act_114 (by decide) (fun _ => ?_) (fun q => absurd (by decide) q)
              refine lv_iload hx hb dX11_act_122 (lv_at hl 0 rfl) ?_
              exact rE_i hf hr hlk hw ⟨congrArg some (by simp only [f_X11_act, if_neg c_1, if_neg c_2, if_pos c_3, if_neg c_13, if_pos c_14]; rw [e_4] <;> rfl), by simp only [f_X11_act_w1, f_X11_act_w2, f_X11_act_w3, f_X11_act_w4, if_neg c_1, if_neg c_2, if_pos c_3, if_neg c_13, if_pos c_14]; rw [e_4] <;> rfl⟩ (show ([oh, os, oho, ohe, otr] : List Nat) = [oh, os, oho, ohe, otr] from rfl) dX11_act_124
          · refine lv_aload_n hx hb dX11_act_61 rfl (lv_at hl 1 rfl) ?_
            refine lv_iload hx hb dX11_act_62 (lv_at hl 0 rfl) ?_
            refine lv_iload_n hx hb dX11_act_64 rfl (lv_at hl 4 rfl) ?_
            refine mcV hf hk hst hw (c_X11_looksAs_2_2 l g oh os ok ol ord odd otp olt orw oso osz oit oho ohe otr stp laws z cnt fogs arms kinds faiths places moved isk tpd oat obg otk ovl rmn 0 0 trc (ix (hdo (ix shelf))) x (by omega) (e_4) (by first | omega | ((repeat apply tr1_le); dsimp only; omega))) (cwV 2 hts gX11_act_X11_looksAs rfl rfl rfl hdV_X11_looksAs ⟨Nat.le_of_ble_eq_true rfl, Nat.le_of_ble_eq_true rfl⟩) [0, 1, 4] rfl rfl 0 rfl rfl rfl hl.1 rfl (Nat.le_of_ble_eq_true rfl) dX11_act_65 ⟨Nat.zero_le _, Nat.zero_le _⟩ (W' := [cob oh 11 [.ref os, .ref ok, .ref ol, .ref ord, .int isk, .ref odd, .ref otp, .int (nI tpd), .ref olt, .int oat, .int obg, .int otk, .int ovl, .ref orw, .int (nI rmn), .ref oso, .ref osz, .ref oit, .ref oho, .ref ohe, .ref otr, .int (nI (tr1 (tr1 (0, trc) 30) 10).1), .int (nI (ix (hdo (ix shelf)))), .int 0], cin g os 51 (mR stp laws z cnt fogs arms kinds faiths places moved), cin g oho 4 hds, cin g ohe 4 hdo, cin g otr 30 ((tr1 (tr1 (0, trc) 30) 10).2)]) rfl (fun H locs hw => ?_)
            refine lv_goto (tgt := 108) hx hb dX11_act_68 (by decide) ?_
            refine lv_istore (lv' := [(5, .int (((x * 3) - (nI (ix (hdo (ix shelf))))) * 2)), (4, .int 2), (0, .ref oh), (1, .int shelf), (2, .int act), (3, .int x)]) hx hb dX11_act_108 hl (by decide) rfl (fun ls hl => ?_)
            refine lv_aload_n hx hb dX11_act_110 rfl (lv_at hl 2 rfl) ?_
            refine rg hf hk hw hinX11 0 rfl rfl 23 (by decide) w_3 rfl dX11_act_111 ?_
            refine lv_if_eq (tgt := 122) hx hb dX11_act_114 (by decide) (fun _ => ?_) (fun q => absurd (by decide) q)
            refine lv_iload hx hb dX11_act_122 (lv_at hl 0 rfl) ?_
            exact rE_i hf hr hlk hw ⟨congrArg some (by simp only [f_X11_act, if_neg c_1, if_neg c_2, if_pos c_3, if_pos c_13]; rw [e_4] <;> rfl), by simp only [f_X11_act_w1, f_X11_act_w2, f_X11_act_w3, f_X11_act_w4, if_neg c_1, if_neg c_2, if_pos c_3, if_pos c_13]; rw [e_4] <;> rfl⟩ (show ([oh, os, oho, ohe, otr] : List Nat) = [oh, os, oho, ohe, otr] from rfl) dX11_act_124
        · refine lv_tope (y := 3) e_4 ?_
          refine lv_istore (lv' := [(4, .int 3), (0, .ref oh), (1, .int shelf), (2, .int act), (3, .int x)]) hx hb dX11_act_55 hl (by decide) rfl (fun ls hl => ?_)
          refine lv_iload_n hx hb dX11_act_57 rfl (lv_at hl 3 rfl) ?_
          refine lv_if_ne (tgt := 71) hx hb dX11_act_58 (by decide) (fun c_18 => ?_) (fun c_18 => ?_)
          · refine lv_iload_n hx hb dX11_act_71 rfl (lv_at hl 3 rfl) ?_
            refine lv_iconst (v := 1) hx hb dX11_act_72 (by decide) ?_
            refine lv_icmp_ne (tgt := 86) hx hb dX11_act_73 (by decide) (fun c_19 => ?_) (fun c_19 => ?_)
            · refine lv_iload_n hx hb dX11_act_86 rfl (lv_at hl 3 rfl) ?_
              refine lv_iconst (v := 2) hx hb dX11_act_87 (by decide) ?_
              refine lv_icmp_ne (tgt := 101) hx hb dX11_act_88 (by decide) (fun c_20 => ?_) (fun c_20 => ?_)
              · refine lv_aload_n hx hb dX11_act_101 rfl (lv_at hl 1 rfl) ?_
                refine lv_iload hx hb dX11_act_102 (lv_at hl 0 rfl) ?_
                refine lv_iload_n hx hb dX11_act_104 rfl (lv_at hl 4 rfl) ?_
                refine mcV hf hk hst hw (c_X11_comesAs_3_3 l g oh os ok ol ord odd otp olt orw oso osz oit oho ohe otr stp laws z cnt fogs arms kinds faiths places moved isk tpd oat obg otk ovl rmn 0 trc (ix (hdo (ix shelf))) x (by omega) (e_4) (by first | omega | ((repeat apply tr1_le); dsimp only; omega))) (cwV 2 hts gX11_act_X11_comesAs rfl rfl rfl hdV_X11_comesAs ⟨Nat.le_of_ble_eq_true rfl, Nat.le_of_ble_eq_true rfl⟩) [0, 1, 4] rfl rfl 0 rfl rfl rfl hl.1 rfl (Nat.le_of_ble_eq_true rfl) dX11_act_105 ⟨Nat.zero_le _, Nat.zero_le _⟩ (W' := [cob oh 11 [.ref os, .ref ok, .ref ol, .ref ord, .int isk, .ref odd, .ref otp, .int (nI tpd), .ref olt, .int oat, .int obg, .int otk, .int ovl, .ref orw, .int (nI rmn), .ref oso, .ref osz, .ref oit, .ref oho, .ref ohe, .ref otr, .int (nI (tr1 (tr1 (tr1 (tr1 (tr1 (0, trc) 13) 20) 11) 51) 10).1), .int (nI (ix (hdo (ix shelf)))), .int 0], cin g os 51 (mR stp laws z cnt fogs arms kinds faiths places moved), cin g oho 4 hds, cin g ohe 4 hdo, cin g otr 30 ((tr1 (tr1 (tr1 (tr1 (tr1 (0, trc) 13) 20) 11) 51) 10).2)]) rfl (fun H locs hw => ?_)
                refine lv_istore (lv' := [(5, .int ((-((((x * 3) - (nI (ix (hdo (ix shelf))))) + 3) + ((places (ix (hdo (ix shelf)))) * 6))) ^^^ 200)), (4, .int 3), (0, .ref oh), (1, .int shelf), (2, .int act), (3, .int x)]) hx hb dX11_act_108 hl (by decide) rfl (fun ls hl => ?_)
                refine lv_aload_n hx hb dX11_act_110 rfl (lv_at hl 2 rfl) ?_
                refine rg hf hk hw hinX11 0 rfl rfl 23 (by decide) w_3 rfl dX11_act_111 ?_
                refine lv_if_eq (tgt := 122) hx hb dX11_act_114 (by decide) (fun _ => ?_) (fun q => absurd (by decide) q)
                refine lv_iload hx hb dX11_act_122 (lv_at hl 0 rfl) ?_
                exact rE_i hf hr hlk hw ⟨congrArg some (by simp only [f_X11_act, if_neg c_1, if_neg c_2, if_pos c_3, if_neg c_18, if_neg c_19, if_neg c_20]; rw [e_4] <;> rfl), by simp only [f_X11_act_w1, f_X11_act_w2, f_X11_act_w3, f_X11_act_w4, if_neg c_1, if_neg c_2, if_pos c_3, if_neg c_18, if_neg c_19, if_neg c_20]; rw [e_4] <;> rfl⟩ (show ([oh, os, oho, ohe, otr] : List Nat) = [oh, os, oho, ohe, otr] from rfl) dX11_act_124
              · refine lv_aload_n hx hb dX11_act_91 rfl (lv_at hl 1 rfl) ?_
                refine lv_iload hx hb dX11_act_92 (lv_at hl 0 rfl) ?_
                refine lv_iload_n hx hb dX11_act_94 rfl (lv_at hl 4 rfl) ?_
                refine mcV hf hk hst hw (c_X11_partsAs_3_3 l g oh os ok ol ord odd otp olt orw oso osz oit oho ohe otr stp laws z cnt fogs arms kinds faiths places moved isk tpd oat obg otk ovl rmn 0 trc (ix (hdo (ix shelf))) x (by omega) (e_4) (by first | omega | ((repeat apply tr1_le); dsimp only; omega))) (cwV 2 hts gX11_act_X11_partsAs rfl rfl rfl hdV_X11_partsAs ⟨Nat.le_of_ble_eq_true rfl, Nat.le_of_ble_eq_true rfl⟩) [0, 1, 4] rfl rfl 0 rfl rfl rfl hl.1 rfl (Nat.le_of_ble_eq_true rfl) dX11_act_95 ⟨Nat.zero_le _, Nat.zero_le _⟩ (W' := [cob oh 11 [.ref os, .ref ok, .ref ol, .ref ord, .int isk, .ref odd, .ref otp, .int (nI tpd), .ref olt, .int oat, .int obg, .int otk, .int ovl, .ref orw, .int (nI rmn), .ref oso, .ref osz, .ref oit, .ref oho, .ref ohe, .ref otr, .int (nI (tr1 (tr1 (0, trc) 50) 12).1), .int (nI (ix (hdo (ix shelf)))), .int (brk (nI (ix (hdo (ix shelf)))) (places (ix (hdo (ix shelf)))) 0)], cin g os 51 (mR stp laws z cnt fogs arms kinds faiths places moved), cin g oho 4 hds, cin g ohe 4 hdo, cin g otr 30 ((tr1 (tr1 (0, trc) 50) 12).2)]) rfl (fun H locs hw => ?_)
                refine lv_goto (tgt := 108) hx hb dX11_act_98 (by decide) ?_
                refine lv_istore (lv' := [(5, .int ((prt (nI (ix (hdo (ix shelf)))) (places (ix (hdo (ix shelf)))) (x + 4)) * (nI (ix (hdo (ix shelf)))))), (4, .int 3), (0, .ref oh), (1, .int shelf), (2, .int act), (3, .int x)]) hx hb dX11_act_108 hl (by decide) rfl (fun ls hl => ?_)
                refine lv_aload_n hx hb dX11_act_110 rfl (lv_at hl 2 rfl) ?_
                refine rg hf hk hw hinX11 0 rfl rfl 23 (by decide) w_3 rfl dX11_act_111 ?_
                refine lv_if_eq (tgt := 122) hx hb dX11_act_114 (by decide) (fun c_21 => ?_) (fun c_21 => ?_)
                · refine lv_iload hx hb dX11_act_122 (lv_at hl 0 rfl) ?_
                  exact rE_i hf hr hlk hw ⟨congrArg some (by simp only [f_X11_act, if_neg c_1, if_neg c_2, if_pos c_3, if_neg c_18, if_neg c_19, if_pos c_20, if_pos c_21]; rw [e_4] <;> rfl), by simp only [f_X11_act_w1, f_X11_act_w2, f_X11_act_w3, f_X11_act_w4, if_neg c_1, if_neg c_2, if_pos c_3, if_neg c_18, if_neg c_19, if_pos c_20, if_pos c_21]; rw [e_4] <;> rfl⟩ (show ([oh, os, oho, ohe, otr] : List Nat) = [oh, os, oho, ohe, otr] from rfl) dX11_act_124
                · refine lv_bipush (v := (-15)) hx hb dX11_act_117 (by decide) ?_
                  refine lv_goto (tgt := 124) hx hb dX11_act_119 (by decide) ?_
                  exact rE_i hf hr hlk hw ⟨congrArg some (by simp only [f_X11_act, if_neg c_1, if_neg c_2, if_pos c_3, if_neg c_18, if_neg c_19, if_pos c_20, if_neg c_21]; rw [e_4] <;> rfl), by simp only [f_X11_act_w1, f_X11_act_w2, f_X11_act_w3, f_X11_act_w4, if_neg c_1, if_neg c_2, if_pos c_3, if_neg c_18, if_neg c_19, if_pos c_20, if_neg c_21]; rw [e_4] <;> rfl⟩ (show ([oh, os, oho, ohe, otr] : List Nat) = [oh, os, oho, ohe, otr] from rfl) dX11_act_124
            · refine lv_aload_n hx hb dX11_act_76 rfl (lv_at hl 1 rfl) ?_
              refine lv_iload hx hb dX11_act_77 (lv_at hl 0 rfl) ?_
              refine lv_iload_n hx hb dX11_act_79 rfl (lv_at hl 4 rfl) ?_
              refine mcV hf hk hst hw (c_X11_walksAs_3_3 l g oh os ok ol ord odd otp olt orw oso osz oit oho ohe otr stp laws z cnt fogs arms kinds faiths places moved isk tpd oat obg otk ovl rmn 0 0 trc (ix (hdo (ix shelf))) x (by omega) (e_4) (by first | omega | ((repeat apply tr1_le); dsimp only; omega))) (cwV 2 hts gX11_act_X11_walksAs rfl rfl rfl hdV_X11_walksAs ⟨Nat.le_of_ble_eq_true rfl, Nat.le_of_ble_eq_true rfl⟩) [0, 1, 4] rfl rfl 0 rfl rfl rfl hl.1 rfl (Nat.le_of_ble_eq_true rfl) dX11_act_80 ⟨Nat.zero_le _, Nat.zero_le _⟩ (W' := [cob oh 11 [.ref os, .ref ok, .ref ol, .ref ord, .int isk, .ref odd, .ref otp, .int (nI tpd), .ref olt, .int oat, .int obg, .int otk, .int ovl, .ref orw, .int (nI rmn), .ref oso, .ref osz, .ref oit, .ref oho, .ref ohe, .ref otr, .int (nI (tr1 (tr1 (tr1 (tr1 (0, trc) 20) 11) 51) 10).1), .int (nI (ix (hdo (ix shelf)))), .int 0], cin g os 51 (mR stp laws z cnt fogs arms kinds faiths places moved), cin g oho 4 hds, cin g ohe 4 hdo, cin g otr 30 ((tr1 (tr1 (tr1 (tr1 (0, trc) 20) 11) 51) 10).2)]) rfl (fun H locs hw => ?_)
              refine lv_goto (tgt := 108) hx hb dX11_act_83 (by decide) ?_
              refine lv_istore (lv' := [(5, .int (-((((x * 3) - (nI (ix (hdo (ix shelf))))) + 3) + ((places (ix (hdo (ix shelf)))) * 6)))), (4, .int 3), (0, .ref oh), (1, .int shelf), (2, .int act), (3, .int x)]) hx hb dX11_act_108 hl (by decide) rfl (fun ls hl => ?_)
              refine lv_aload_n hx hb dX11_act_110 rfl (lv_at hl 2 rfl) ?_
              refine rg hf hk hw hinX11 0 rfl rfl 23 (by decide) w_3 rfl dX11_act_111 ?_
              refine lv_if_eq (tgt := 122) hx hb dX11_act_114 (by decide) (fun _ => ?_) (fun q => absurd (by decide) q)
              refine lv_iload hx hb dX11_act_122 (lv_at hl 0 rfl) ?_
              exact rE_i hf hr hlk hw ⟨congrArg some (by simp only [f_X11_act, if_neg c_1, if_neg c_2, if_pos c_3, if_neg c_18, if_pos c_19]; rw [e_4] <;> rfl), by simp only [f_X11_act_w1, f_X11_act_w2, f_X11_act_w3, f_X11_act_w4, if_neg c_1, if_neg c_2, if_pos c_3, if_neg c_18, if_pos c_19]; rw [e_4] <;> rfl⟩ (show ([oh, os, oho, ohe, otr] : List Nat) = [oh, os, oho, ohe, otr] from rfl) dX11_act_124
          · refine lv_aload_n hx hb dX11_act_61 rfl (lv_at hl 1 rfl) ?_
            refine lv_iload hx hb dX11_act_62 (lv_at hl 0 rfl) ?_
            refine lv_iload_n hx hb dX11_act_64 rfl (lv_at hl 4 rfl) ?_
            refine mcV hf hk hst hw (c_X11_looksAs_3_3 l g oh os ok ol ord odd otp olt orw oso osz oit oho ohe otr stp laws z cnt fogs arms kinds faiths places moved isk tpd oat obg otk ovl rmn 0 0 trc (ix (hdo (ix shelf))) x (by omega) (e_4) (by first | omega | ((repeat apply tr1_le); dsimp only; omega))) (cwV 2 hts gX11_act_X11_looksAs rfl rfl rfl hdV_X11_looksAs ⟨Nat.le_of_ble_eq_true rfl, Nat.le_of_ble_eq_true rfl⟩) [0, 1, 4] rfl rfl 0 rfl rfl rfl hl.1 rfl (Nat.le_of_ble_eq_true rfl) dX11_act_65 ⟨Nat.zero_le _, Nat.zero_le _⟩ (W' := [cob oh 11 [.ref os, .ref ok, .ref ol, .ref ord, .int isk, .ref odd, .ref otp, .int (nI tpd), .ref olt, .int oat, .int obg, .int otk, .int ovl, .ref orw, .int (nI rmn), .ref oso, .ref osz, .ref oit, .ref oho, .ref ohe, .ref otr, .int (nI (tr1 (tr1 (0, trc) 51) 10).1), .int (nI (ix (hdo (ix shelf)))), .int 0], cin g os 51 (mR stp laws z cnt fogs arms kinds faiths places moved), cin g oho 4 hds, cin g ohe 4 hdo, cin g otr 30 ((tr1 (tr1 (0, trc) 51) 10).2)]) rfl (fun H locs hw => ?_)
            refine lv_goto (tgt := 108) hx hb dX11_act_68 (by decide) ?_
            refine lv_istore (lv' := [(5, .int (((x * 3) - (nI (ix (hdo (ix shelf))))) + 3)), (4, .int 3), (0, .ref oh), (1, .int shelf), (2, .int act), (3, .int x)]) hx hb dX11_act_108 hl (by decide) rfl (fun ls hl => ?_)
            refine lv_aload_n hx hb dX11_act_110 rfl (lv_at hl 2 rfl) ?_
            refine rg hf hk hw hinX11 0 rfl rfl 23 (by decide) w_3 rfl dX11_act_111 ?_
            refine lv_if_eq (tgt := 122) hx hb dX11_act_114 (by decide) (fun _ => ?_) (fun q => absurd (by decide) q)
            refine lv_iload hx hb dX11_act_122 (lv_at hl 0 rfl) ?_
            exact rE_i hf hr hlk hw ⟨congrArg some (by simp only [f_X11_act, if_neg c_1, if_neg c_2, if_pos c_3, if_pos c_18]; rw [e_4] <;> rfl), by simp only [f_X11_act_w1, f_X11_act_w2, f_X11_act_w3, f_X11_act_w4, if_neg c_1, if_neg c_2, if_pos c_3, if_pos c_18]; rw [e_4] <;> rfl⟩ (show ([oh, os, oho, ohe, otr] : List Nat) = [oh, os, oho, ohe, otr] from rfl) dX11_act_124
        · refine lv_tope (y := 4) e_4 ?_
          refine lv_istore (lv' := [(4, .int 4), (0, .ref oh), (1, .int shelf), (2, .int act), (3, .int x)]) hx hb dX11_act_55 hl (by decide) rfl (fun ls hl => ?_)
          refine lv_iload_n hx hb dX11_act_57 rfl (lv_at hl 3 rfl) ?_
          refine lv_if_ne (tgt := 71) hx hb dX11_act_58 (by decide) (fun c_22 => ?_) (fun c_22 => ?_)
          · refine lv_iload_n hx hb dX11_act_71 rfl (lv_at hl 3 rfl) ?_
            refine lv_iconst (v := 1) hx hb dX11_act_72 (by decide) ?_
            refine lv_icmp_ne (tgt := 86) hx hb dX11_act_73 (by decide) (fun c_23 => ?_) (fun c_23 => ?_)
            · refine lv_iload_n hx hb dX11_act_86 rfl (lv_at hl 3 rfl) ?_
              refine lv_iconst (v := 2) hx hb dX11_act_87 (by decide) ?_
              refine lv_icmp_ne (tgt := 101) hx hb dX11_act_88 (by decide) (fun c_24 => ?_) (fun c_24 => ?_)
              · refine lv_aload_n hx hb dX11_act_101 rfl (lv_at hl 1 rfl) ?_
                refine lv_iload hx hb dX11_act_102 (lv_at hl 0 rfl) ?_
                refine lv_iload_n hx hb dX11_act_104 rfl (lv_at hl 4 rfl) ?_
                refine mcV hf hk hst hw (c_X11_comesAs_4_4 l g oh os ok ol ord odd otp olt orw oso osz oit oho ohe otr stp laws z cnt fogs arms kinds faiths places moved isk tpd oat obg otk ovl rmn 0 trc (ix (hdo (ix shelf))) x (by omega) (e_4) (by first | omega | ((repeat apply tr1_le); dsimp only; omega))) (cwV 2 hts gX11_act_X11_comesAs rfl rfl rfl hdV_X11_comesAs ⟨Nat.le_of_ble_eq_true rfl, Nat.le_of_ble_eq_true rfl⟩) [0, 1, 4] rfl rfl 0 rfl rfl rfl hl.1 rfl (Nat.le_of_ble_eq_true rfl) dX11_act_105 ⟨Nat.zero_le _, Nat.zero_le _⟩ (W' := [cob oh 11 [.ref os, .ref ok, .ref ol, .ref ord, .int isk, .ref odd, .ref otp, .int (nI tpd), .ref olt, .int oat, .int obg, .int otk, .int ovl, .ref orw, .int (nI rmn), .ref oso, .ref osz, .ref oit, .ref oho, .ref ohe, .ref otr, .int (nI (tr1 (tr1 (tr1 (tr1 (tr1 (tr1 (tr1 (tr1 (tr1 (tr1 (tr1 (0, trc) 31) 13) 41) 11) 40) 30) 10) 40) 30) 10) 12).1), .int (nI (ix (hdo (ix shelf)))), .int (brk (nI (ix (hdo (ix shelf)))) (places (ix (hdo (ix shelf)))) 0)], cin g os 51 (mR stp laws z cnt fogs arms kinds faiths places moved), cin g oho 4 hds, cin g ohe 4 hdo, cin g otr 30 ((tr1 (tr1 (tr1 (tr1 (tr1 (tr1 (tr1 (tr1 (tr1 (tr1 (tr1 (0, trc) 31) 13) 41) 11) 40) 30) 10) 40) 30) 10) 12).2)]) rfl (fun H locs hw => ?_)
                refine lv_istore (lv' := [(5, .int ((((((((x * 3) - (nI (ix (hdo (ix shelf))))) * 2) ^^^ 9) + ((places (ix (hdo (ix shelf)))) * 6)) - ((((((places (ix (hdo (ix shelf)))) * 3) - (nI (ix (hdo (ix shelf))))) * 2) ^^^ 9))) ^^^ 200) + (prt (nI (ix (hdo (ix shelf)))) (places (ix (hdo (ix shelf)))) (nI (ix (hdo (ix shelf))))))), (4, .int 4), (0, .ref oh), (1, .int shelf), (2, .int act), (3, .int x)]) hx hb dX11_act_108 hl (by decide) rfl (fun ls hl => ?_)
                refine lv_aload_n hx hb dX11_act_110 rfl (lv_at hl 2 rfl) ?_
                refine rg hf hk hw hinX11 0 rfl rfl 23 (by decide) w_3 rfl dX11_act_111 ?_
                refine lv_if_eq (tgt := 122) hx hb dX11_act_114 (by decide) (fun c_25 => ?_) (fun c_25 => ?_)
                · refine lv_iload hx hb dX11_act_122 (lv_at hl 0 rfl) ?_
                  exact rE_i hf hr hlk hw ⟨congrArg some (by simp only [f_X11_act, if_neg c_1, if_neg c_2, if_pos c_3, if_neg c_22, if_neg c_23, if_neg c_24, if_pos c_25]; rw [e_4] <;> rfl), by simp only [f_X11_act_w1, f_X11_act_w2, f_X11_act_w3, f_X11_act_w4, if_neg c_1, if_neg c_2, if_pos c_3, if_neg c_22, if_neg c_23, if_neg c_24, if_pos c_25]; rw [e_4] <;> rfl⟩ (show ([oh, os, oho, ohe, otr] : List Nat) = [oh, os, oho, ohe, otr] from rfl) dX11_act_124
                · refine lv_bipush (v := (-15)) hx hb dX11_act_117 (by decide) ?_
                  refine lv_goto (tgt := 124) hx hb dX11_act_119 (by decide) ?_
                  exact rE_i hf hr hlk hw ⟨congrArg some (by simp only [f_X11_act, if_neg c_1, if_neg c_2, if_pos c_3, if_neg c_22, if_neg c_23, if_neg c_24, if_neg c_25]; rw [e_4] <;> rfl), by simp only [f_X11_act_w1, f_X11_act_w2, f_X11_act_w3, f_X11_act_w4, if_neg c_1, if_neg c_2, if_pos c_3, if_neg c_22, if_neg c_23, if_neg c_24, if_neg c_25]; rw [e_4] <;> rfl⟩ (show ([oh, os, oho, ohe, otr] : List Nat) = [oh, os, oho, ohe, otr] from rfl) dX11_act_124
              · refine lv_aload_n hx hb dX11_act_91 rfl (lv_at hl 1 rfl) ?_
                refine lv_iload hx hb dX11_act_92 (lv_at hl 0 rfl) ?_
                refine lv_iload_n hx hb dX11_act_94 rfl (lv_at hl 4 rfl) ?_
                refine mcV hf hk hst hw (c_X11_partsAs_4_4 l g oh os ok ol ord odd otp olt orw oso osz oit oho ohe otr stp laws z cnt fogs arms kinds faiths places moved isk tpd oat obg otk ovl rmn 0 trc (ix (hdo (ix shelf))) x (by omega) (e_4) (by first | omega | ((repeat apply tr1_le); dsimp only; omega))) (cwV 2 hts gX11_act_X11_partsAs rfl rfl rfl hdV_X11_partsAs ⟨Nat.le_of_ble_eq_true rfl, Nat.le_of_ble_eq_true rfl⟩) [0, 1, 4] rfl rfl 0 rfl rfl rfl hl.1 rfl (Nat.le_of_ble_eq_true rfl) dX11_act_95 ⟨Nat.zero_le _, Nat.zero_le _⟩ (W' := [cob oh 11 [.ref os, .ref ok, .ref ol, .ref ord, .int isk, .ref odd, .ref otp, .int (nI tpd), .ref olt, .int oat, .int obg, .int otk, .int ovl, .ref orw, .int (nI rmn), .ref oso, .ref osz, .ref oit, .ref oho, .ref ohe, .ref otr, .int (nI (tr1 (0, trc) 12).1), .int (nI (ix (hdo (ix shelf)))), .int (brk (nI (ix (hdo (ix shelf)))) (places (ix (hdo (ix shelf)))) 0)], cin g os 51 (mR stp laws z cnt fogs arms kinds faiths places moved), cin g oho 4 hds, cin g ohe 4 hdo, cin g otr 30 ((tr1 (0, trc) 12).2)]) rfl (fun H locs hw => ?_)
                refine lv_goto (tgt := 108) hx hb dX11_act_98 (by decide) ?_
                refine lv_istore (lv' := [(5, .int (prt (nI (ix (hdo (ix shelf)))) (places (ix (hdo (ix shelf)))) x)), (4, .int 4), (0, .ref oh), (1, .int shelf), (2, .int act), (3, .int x)]) hx hb dX11_act_108 hl (by decide) rfl (fun ls hl => ?_)
                refine lv_aload_n hx hb dX11_act_110 rfl (lv_at hl 2 rfl) ?_
                refine rg hf hk hw hinX11 0 rfl rfl 23 (by decide) w_3 rfl dX11_act_111 ?_
                refine lv_if_eq (tgt := 122) hx hb dX11_act_114 (by decide) (fun c_26 => ?_) (fun c_26 => ?_)
                · refine lv_iload hx hb dX11_act_122 (lv_at hl 0 rfl) ?_
                  exact rE_i hf hr hlk hw ⟨congrArg some (by simp only [f_X11_act, if_neg c_1, if_neg c_2, if_pos c_3, if_neg c_22, if_neg c_23, if_pos c_24, if_pos c_26]; rw [e_4] <;> rfl), by simp only [f_X11_act_w1, f_X11_act_w2, f_X11_act_w3, f_X11_act_w4, if_neg c_1, if_neg c_2, if_pos c_3, if_neg c_22, if_neg c_23, if_pos c_24, if_pos c_26]; rw [e_4] <;> rfl⟩ (show ([oh, os, oho, ohe, otr] : List Nat) = [oh, os, oho, ohe, otr] from rfl) dX11_act_124
                · refine lv_bipush (v := (-15)) hx hb dX11_act_117 (by decide) ?_
                  refine lv_goto (tgt := 124) hx hb dX11_act_119 (by decide) ?_
                  exact rE_i hf hr hlk hw ⟨congrArg some (by simp only [f_X11_act, if_neg c_1, if_neg c_2, if_pos c_3, if_neg c_22, if_neg c_23, if_pos c_24, if_neg c_26]; rw [e_4] <;> rfl), by simp only [f_X11_act_w1, f_X11_act_w2, f_X11_act_w3, f_X11_act_w4, if_neg c_1, if_neg c_2, if_pos c_3, if_neg c_22, if_neg c_23, if_pos c_24, if_neg c_26]; rw [e_4] <;> rfl⟩ (show ([oh, os, oho, ohe, otr] : List Nat) = [oh, os, oho, ohe, otr] from rfl) dX11_act_124
            · refine lv_aload_n hx hb dX11_act_76 rfl (lv_at hl 1 rfl) ?_
              refine lv_iload hx hb dX11_act_77 (lv_at hl 0 rfl) ?_
              refine lv_iload_n hx hb dX11_act_79 rfl (lv_at hl 4 rfl) ?_
              refine mcV hf hk hst hw (c_X11_walksAs_4_4 l g oh os ok ol ord odd otp olt orw oso osz oit oho ohe otr stp laws z cnt fogs arms kinds faiths places moved isk tpd oat obg otk ovl rmn 0 0 trc (ix (hdo (ix shelf))) x (by omega) (e_4) (by first | omega | ((repeat apply tr1_le); dsimp only; omega))) (cwV 2 hts gX11_act_X11_walksAs rfl rfl rfl hdV_X11_walksAs ⟨Nat.le_of_ble_eq_true rfl, Nat.le_of_ble_eq_true rfl⟩) [0, 1, 4] rfl rfl 0 rfl rfl rfl hl.1 rfl (Nat.le_of_ble_eq_true rfl) dX11_act_80 ⟨Nat.zero_le _, Nat.zero_le _⟩ (W' := [cob oh 11 [.ref os, .ref ok, .ref ol, .ref ord, .int isk, .ref odd, .ref otp, .int (nI tpd), .ref olt, .int oat, .int obg, .int otk, .int ovl, .ref orw, .int (nI rmn), .ref oso, .ref osz, .ref oit, .ref oho, .ref ohe, .ref otr, .int (nI (tr1 (tr1 (tr1 (tr1 (tr1 (tr1 (tr1 (tr1 (0, trc) 41) 11) 40) 30) 10) 40) 30) 10).1), .int (nI (ix (hdo (ix shelf)))), .int 0], cin g os 51 (mR stp laws z cnt fogs arms kinds faiths places moved), cin g oho 4 hds, cin g ohe 4 hdo, cin g otr 30 ((tr1 (tr1 (tr1 (tr1 (tr1 (tr1 (tr1 (tr1 (0, trc) 41) 11) 40) 30) 10) 40) 30) 10).2)]) rfl (fun H locs hw => ?_)
              refine lv_goto (tgt := 108) hx hb dX11_act_83 (by decide) ?_
              refine lv_istore (lv' := [(5, .int ((((((x * 3) - (nI (ix (hdo (ix shelf))))) * 2) ^^^ 9) + ((places (ix (hdo (ix shelf)))) * 6)) - ((((((places (ix (hdo (ix shelf)))) * 3) - (nI (ix (hdo (ix shelf))))) * 2) ^^^ 9)))), (4, .int 4), (0, .ref oh), (1, .int shelf), (2, .int act), (3, .int x)]) hx hb dX11_act_108 hl (by decide) rfl (fun ls hl => ?_)
              refine lv_aload_n hx hb dX11_act_110 rfl (lv_at hl 2 rfl) ?_
              refine rg hf hk hw hinX11 0 rfl rfl 23 (by decide) w_3 rfl dX11_act_111 ?_
              refine lv_if_eq (tgt := 122) hx hb dX11_act_114 (by decide) (fun _ => ?_) (fun q => absurd (by decide) q)
              refine lv_iload hx hb dX11_act_122 (lv_at hl 0 rfl) ?_
              exact rE_i hf hr hlk hw ⟨congrArg some (by simp only [f_X11_act, if_neg c_1, if_neg c_2, if_pos c_3, if_neg c_22, if_pos c_23]; rw [e_4] <;> rfl), by simp only [f_X11_act_w1, f_X11_act_w2, f_X11_act_w3, f_X11_act_w4, if_neg c_1, if_neg c_2, if_pos c_3, if_neg c_22, if_pos c_23]; rw [e_4] <;> rfl⟩ (show ([oh, os, oho, ohe, otr] : List Nat) = [oh, os, oho, ohe, otr] from rfl) dX11_act_124
          · refine lv_aload_n hx hb dX11_act_61 rfl (lv_at hl 1 rfl) ?_
            refine lv_iload hx hb dX11_act_62 (lv_at hl 0 rfl) ?_
            refine lv_iload_n hx hb dX11_act_64 rfl (lv_at hl 4 rfl) ?_
            refine mcV hf hk hst hw (c_X11_looksAs_4_4 l g oh os ok ol ord odd otp olt orw oso osz oit oho ohe otr stp laws z cnt fogs arms kinds faiths places moved isk tpd oat obg otk ovl rmn 0 0 trc (ix (hdo (ix shelf))) x (by omega) (e_4) (by first | omega | ((repeat apply tr1_le); dsimp only; omega))) (cwV 2 hts gX11_act_X11_looksAs rfl rfl rfl hdV_X11_looksAs ⟨Nat.le_of_ble_eq_true rfl, Nat.le_of_ble_eq_true rfl⟩) [0, 1, 4] rfl rfl 0 rfl rfl rfl hl.1 rfl (Nat.le_of_ble_eq_true rfl) dX11_act_65 ⟨Nat.zero_le _, Nat.zero_le _⟩ (W' := [cob oh 11 [.ref os, .ref ok, .ref ol, .ref ord, .int isk, .ref odd, .ref otp, .int (nI tpd), .ref olt, .int oat, .int obg, .int otk, .int ovl, .ref orw, .int (nI rmn), .ref oso, .ref osz, .ref oit, .ref oho, .ref ohe, .ref otr, .int (nI (tr1 (tr1 (tr1 (0, trc) 40) 30) 10).1), .int (nI (ix (hdo (ix shelf)))), .int 0], cin g os 51 (mR stp laws z cnt fogs arms kinds faiths places moved), cin g oho 4 hds, cin g ohe 4 hdo, cin g otr 30 ((tr1 (tr1 (tr1 (0, trc) 40) 30) 10).2)]) rfl (fun H locs hw => ?_)
            refine lv_goto (tgt := 108) hx hb dX11_act_68 (by decide) ?_
            refine lv_istore (lv' := [(5, .int ((((x * 3) - (nI (ix (hdo (ix shelf))))) * 2) ^^^ 9)), (4, .int 4), (0, .ref oh), (1, .int shelf), (2, .int act), (3, .int x)]) hx hb dX11_act_108 hl (by decide) rfl (fun ls hl => ?_)
            refine lv_aload_n hx hb dX11_act_110 rfl (lv_at hl 2 rfl) ?_
            refine rg hf hk hw hinX11 0 rfl rfl 23 (by decide) w_3 rfl dX11_act_111 ?_
            refine lv_if_eq (tgt := 122) hx hb dX11_act_114 (by decide) (fun _ => ?_) (fun q => absurd (by decide) q)
            refine lv_iload hx hb dX11_act_122 (lv_at hl 0 rfl) ?_
            exact rE_i hf hr hlk hw ⟨congrArg some (by simp only [f_X11_act, if_neg c_1, if_neg c_2, if_pos c_3, if_pos c_22]; rw [e_4] <;> rfl), by simp only [f_X11_act_w1, f_X11_act_w2, f_X11_act_w3, f_X11_act_w4, if_neg c_1, if_neg c_2, if_pos c_3, if_pos c_22]; rw [e_4] <;> rfl⟩ (show ([oh, os, oho, ohe, otr] : List Nat) = [oh, os, oho, ohe, otr] from rfl) dX11_act_124
        · refine lv_tope (y := 5) e_4 ?_
          refine lv_istore (lv' := [(4, .int 5), (0, .ref oh), (1, .int shelf), (2, .int act), (3, .int x)]) hx hb dX11_act_55 hl (by decide) rfl (fun ls hl => ?_)
          refine lv_iload_n hx hb dX11_act_57 rfl (lv_at hl 3 rfl) ?_
          refine lv_if_ne (tgt := 71) hx hb dX11_act_58 (by decide) (fun c_27 => ?_) (fun c_27 => ?_)
          · refine lv_iload_n hx hb dX11_act_71 rfl (lv_at hl 3 rfl) ?_
            refine lv_iconst (v := 1) hx hb dX11_act_72 (by decide) ?_
            refine lv_icmp_ne (tgt := 86) hx hb dX11_act_73 (by decide) (fun c_28 => ?_) (fun c_28 => ?_)
            · refine lv_iload_n hx hb dX11_act_86 rfl (lv_at hl 3 rfl) ?_
              refine lv_iconst (v := 2) hx hb dX11_act_87 (by decide) ?_
              refine lv_icmp_ne (tgt := 101) hx hb dX11_act_88 (by decide) (fun c_29 => ?_) (fun c_29 => ?_)
              · refine lv_aload_n hx hb dX11_act_101 rfl (lv_at hl 1 rfl) ?_
                refine lv_iload hx hb dX11_act_102 (lv_at hl 0 rfl) ?_
                refine lv_iload_n hx hb dX11_act_104 rfl (lv_at hl 4 rfl) ?_
                refine mcV hf hk hst hw (c_X11_comesAs_5_5 l g oh os ok ol ord odd otp olt orw oso osz oit oho ohe otr stp laws z cnt fogs arms kinds faiths places moved isk tpd oat obg otk ovl rmn 0 trc (ix (hdo (ix shelf))) x (by omega) (e_4) (by first | omega | ((repeat apply tr1_le); dsimp only; omega))) (cwV 2 hts gX11_act_X11_comesAs rfl rfl rfl hdV_X11_comesAs ⟨Nat.le_of_ble_eq_true rfl, Nat.le_of_ble_eq_true rfl⟩) [0, 1, 4] rfl rfl 0 rfl rfl rfl hl.1 rfl (Nat.le_of_ble_eq_true rfl) dX11_act_105 ⟨Nat.zero_le _, Nat.zero_le _⟩ (W' := [cob oh 11 [.ref os, .ref ok, .ref ol, .ref ord, .int isk, .ref odd, .ref otp, .int (nI tpd), .ref olt, .int oat, .int obg, .int otk, .int ovl, .ref orw, .int (nI rmn), .ref oso, .ref osz, .ref oit, .ref oho, .ref ohe, .ref otr, .int (nI (tr1 (tr1 (tr1 (tr1 (0, trc) 60) 13) 11) 10).1), .int (nI (ix (hdo (ix shelf)))), .int 0], cin g os 51 (mR stp laws z cnt fogs arms kinds faiths places moved), cin g oho 4 hds, cin g ohe 4 hdo, cin g otr 30 ((tr1 (tr1 (tr1 (tr1 (0, trc) 60) 13) 11) 10).2)]) rfl (fun H locs hw => ?_)
                refine lv_istore (lv' := [(5, .int (((((x * 3) - (nI (ix (hdo (ix shelf))))) + ((places (ix (hdo (ix shelf)))) * 6)) ^^^ 200) - 8)), (4, .int 5), (0, .ref oh), (1, .int shelf), (2, .int act), (3, .int x)]) hx hb dX11_act_108 hl (by decide) rfl (fun ls hl => ?_)
                refine lv_aload_n hx hb dX11_act_110 rfl (lv_at hl 2 rfl) ?_
                refine rg hf hk hw hinX11 0 rfl rfl 23 (by decide) w_3 rfl dX11_act_111 ?_
                refine lv_if_eq (tgt := 122) hx hb dX11_act_114 (by decide) (fun _ => ?_) (fun q => absurd (by decide) q)
                refine lv_iload hx hb dX11_act_122 (lv_at hl 0 rfl) ?_
                exact rE_i hf hr hlk hw ⟨congrArg some (by simp only [f_X11_act, if_neg c_1, if_neg c_2, if_pos c_3, if_neg c_27, if_neg c_28, if_neg c_29]; rw [e_4] <;> rfl), by simp only [f_X11_act_w1, f_X11_act_w2, f_X11_act_w3, f_X11_act_w4, if_neg c_1, if_neg c_2, if_pos c_3, if_neg c_27, if_neg c_28, if_neg c_29]; rw [e_4] <;> rfl⟩ (show ([oh, os, oho, ohe, otr] : List Nat) = [oh, os, oho, ohe, otr] from rfl) dX11_act_124
              · refine lv_aload_n hx hb dX11_act_91 rfl (lv_at hl 1 rfl) ?_
                refine lv_iload hx hb dX11_act_92 (lv_at hl 0 rfl) ?_
                refine lv_iload_n hx hb dX11_act_94 rfl (lv_at hl 4 rfl) ?_
                refine mcV hf hk hst hw (c_X11_partsAs_5_5 l g oh os ok ol ord odd otp olt orw oso osz oit oho ohe otr stp laws z cnt fogs arms kinds faiths places moved isk tpd oat obg otk ovl rmn 0 trc (ix (hdo (ix shelf))) x (by omega) (e_4) (by first | omega | ((repeat apply tr1_le); dsimp only; omega))) (cwV 2 hts gX11_act_X11_partsAs rfl rfl rfl hdV_X11_partsAs ⟨Nat.le_of_ble_eq_true rfl, Nat.le_of_ble_eq_true rfl⟩) [0, 1, 4] rfl rfl 0 rfl rfl rfl hl.1 rfl (Nat.le_of_ble_eq_true rfl) dX11_act_95 ⟨Nat.zero_le _, Nat.zero_le _⟩ (W' := [cob oh 11 [.ref os, .ref ok, .ref ol, .ref ord, .int isk, .ref odd, .ref otp, .int (nI tpd), .ref olt, .int oat, .int obg, .int otk, .int ovl, .ref orw, .int (nI rmn), .ref oso, .ref osz, .ref oit, .ref oho, .ref ohe, .ref otr, .int (nI (if brk (nI (ix (hdo (ix shelf)))) (places (ix (hdo (ix shelf)))) 0 = 0 then (tr1 (tr1 (tr1 (0, trc) 61) 12) 10) else (tr1 (tr1 (0, trc) 61) 12)).1), .int (nI (ix (hdo (ix shelf)))), .int (brk (nI (ix (hdo (ix shelf)))) (places (ix (hdo (ix shelf)))) 0)], cin g os 51 (mR stp laws z cnt fogs arms kinds faiths places moved), cin g oho 4 hds, cin g ohe 4 hdo, cin g otr 30 ((if brk (nI (ix (hdo (ix shelf)))) (places (ix (hdo (ix shelf)))) 0 = 0 then (tr1 (tr1 (tr1 (0, trc) 61) 12) 10) else (tr1 (tr1 (0, trc) 61) 12)).2)]) rfl (fun H locs hw => ?_)
                refine lv_goto (tgt := 108) hx hb dX11_act_98 (by decide) ?_
                refine lv_istore (lv' := [(5, .int (if brk (nI (ix (hdo (ix shelf)))) (places (ix (hdo (ix shelf)))) 0 = 0 then prt (nI (ix (hdo (ix shelf)))) (places (ix (hdo (ix shelf)))) x + (nI (ix (hdo (ix shelf))) * 3 - nI (ix (hdo (ix shelf)))) else 0)), (4, .int 5), (0, .ref oh), (1, .int shelf), (2, .int act), (3, .int x)]) hx hb dX11_act_108 hl (by decide) rfl (fun ls hl => ?_)
                refine lv_aload_n hx hb dX11_act_110 rfl (lv_at hl 2 rfl) ?_
                refine rg hf hk hw hinX11 0 rfl rfl 23 (by decide) w_3 rfl dX11_act_111 ?_
                refine lv_if_eq (tgt := 122) hx hb dX11_act_114 (by decide) (fun c_30 => ?_) (fun c_30 => ?_)
                · refine lv_iload hx hb dX11_act_122 (lv_at hl 0 rfl) ?_
                  exact rE_i hf hr hlk hw ⟨congrArg some (by simp only [f_X11_act, if_neg c_1, if_neg c_2, if_pos c_3, if_neg c_27, if_neg c_28, if_pos c_29, if_pos c_30]; rw [e_4] <;> rfl), by simp only [f_X11_act_w1, f_X11_act_w2, f_X11_act_w3, f_X11_act_w4, if_neg c_1, if_neg c_2, if_pos c_3, if_neg c_27, if_neg c_28, if_pos c_29, if_pos c_30]; rw [e_4] <;> rfl⟩ (show ([oh, os, oho, ohe, otr] : List Nat) = [oh, os, oho, ohe, otr] from rfl) dX11_act_124
                · refine lv_bipush (v := (-15)) hx hb dX11_act_117 (by decide) ?_
                  refine lv_goto (tgt := 124) hx hb dX11_act_119 (by decide) ?_
                  exact rE_i hf hr hlk hw ⟨congrArg some (by simp only [f_X11_act, if_neg c_1, if_neg c_2, if_pos c_3, if_neg c_27, if_neg c_28, if_pos c_29, if_neg c_30]; rw [e_4] <;> rfl), by simp only [f_X11_act_w1, f_X11_act_w2, f_X11_act_w3, f_X11_act_w4, if_neg c_1, if_neg c_2, if_pos c_3, if_neg c_27, if_neg c_28, if_pos c_29, if_neg c_30]; rw [e_4] <;> rfl⟩ (show ([oh, os, oho, ohe, otr] : List Nat) = [oh, os, oho, ohe, otr] from rfl) dX11_act_124
            · refine lv_aload_n hx hb dX11_act_76 rfl (lv_at hl 1 rfl) ?_
              refine lv_iload hx hb dX11_act_77 (lv_at hl 0 rfl) ?_
              refine lv_iload_n hx hb dX11_act_79 rfl (lv_at hl 4 rfl) ?_
              refine mcV hf hk hst hw (c_X11_walksAs_5_5 l g oh os ok ol ord odd otp olt orw oso osz oit oho ohe otr stp laws z cnt fogs arms kinds faiths places moved isk tpd oat obg otk ovl rmn 0 0 trc (ix (hdo (ix shelf))) x (by omega) (e_4) (by first | omega | ((repeat apply tr1_le); dsimp only; omega))) (cwV 2 hts gX11_act_X11_walksAs rfl rfl rfl hdV_X11_walksAs ⟨Nat.le_of_ble_eq_true rfl, Nat.le_of_ble_eq_true rfl⟩) [0, 1, 4] rfl rfl 0 rfl rfl rfl hl.1 rfl (Nat.le_of_ble_eq_true rfl) dX11_act_80 ⟨Nat.zero_le _, Nat.zero_le _⟩ (W' := [cob oh 11 [.ref os, .ref ok, .ref ol, .ref ord, .int isk, .ref odd, .ref otp, .int (nI tpd), .ref olt, .int oat, .int obg, .int otk, .int ovl, .ref orw, .int (nI rmn), .ref oso, .ref osz, .ref oit, .ref oho, .ref ohe, .ref otr, .int (nI (tr1 (tr1 (0, trc) 11) 10).1), .int (nI (ix (hdo (ix shelf)))), .int 0], cin g os 51 (mR stp laws z cnt fogs arms kinds faiths places moved), cin g oho 4 hds, cin g ohe 4 hdo, cin g otr 30 ((tr1 (tr1 (0, trc) 11) 10).2)]) rfl (fun H locs hw => ?_)
              refine lv_goto (tgt := 108) hx hb dX11_act_83 (by decide) ?_
              refine lv_istore (lv' := [(5, .int (((x * 3) - (nI (ix (hdo (ix shelf))))) + ((places (ix (hdo (ix shelf)))) * 6))), (4, .int 5), (0, .ref oh), (1, .int shelf), (2, .int act), (3, .int x)]) hx hb dX11_act_108 hl (by decide) rfl (fun ls hl => ?_)
              refine lv_aload_n hx hb dX11_act_110 rfl (lv_at hl 2 rfl) ?_
              refine rg hf hk hw hinX11 0 rfl rfl 23 (by decide) w_3 rfl dX11_act_111 ?_
              refine lv_if_eq (tgt := 122) hx hb dX11_act_114 (by decide) (fun _ => ?_) (fun q => absurd (by decide) q)
              refine lv_iload hx hb dX11_act_122 (lv_at hl 0 rfl) ?_
              exact rE_i hf hr hlk hw ⟨congrArg some (by simp only [f_X11_act, if_neg c_1, if_neg c_2, if_pos c_3, if_neg c_27, if_pos c_28]; rw [e_4] <;> rfl), by simp only [f_X11_act_w1, f_X11_act_w2, f_X11_act_w3, f_X11_act_w4, if_neg c_1, if_neg c_2, if_pos c_3, if_neg c_27, if_pos c_28]; rw [e_4] <;> rfl⟩ (show ([oh, os, oho, ohe, otr] : List Nat) = [oh, os, oho, ohe, otr] from rfl) dX11_act_124
          · refine lv_aload_n hx hb dX11_act_61 rfl (lv_at hl 1 rfl) ?_
            refine lv_iload hx hb dX11_act_62 (lv_at hl 0 rfl) ?_
            refine lv_iload_n hx hb dX11_act_64 rfl (lv_at hl 4 rfl) ?_
            refine mcV hf hk hst hw (c_X11_looksAs_5_5 l g oh os ok ol ord odd otp olt orw oso osz oit oho ohe otr stp laws z cnt fogs arms kinds faiths places moved isk tpd oat obg otk ovl rmn 0 0 trc (ix (hdo (ix shelf))) x (by omega) (e_4) (by first | omega | ((repeat apply tr1_le); dsimp only; omega))) (cwV 2 hts gX11_act_X11_looksAs rfl rfl rfl hdV_X11_looksAs ⟨Nat.le_of_ble_eq_true rfl, Nat.le_of_ble_eq_true rfl⟩) [0, 1, 4] rfl rfl 0 rfl rfl rfl hl.1 rfl (Nat.le_of_ble_eq_true rfl) dX11_act_65 ⟨Nat.zero_le _, Nat.zero_le _⟩ (W' := [cob oh 11 [.ref os, .ref ok, .ref ol, .ref ord, .int isk, .ref odd, .ref otp, .int (nI tpd), .ref olt, .int oat, .int obg, .int otk, .int ovl, .ref orw, .int (nI rmn), .ref oso, .ref osz, .ref oit, .ref oho, .ref ohe, .ref otr, .int (nI (tr1 (0, trc) 10).1), .int (nI (ix (hdo (ix shelf)))), .int 0], cin g os 51 (mR stp laws z cnt fogs arms kinds faiths places moved), cin g oho 4 hds, cin g ohe 4 hdo, cin g otr 30 ((tr1 (0, trc) 10).2)]) rfl (fun H locs hw => ?_)
            refine lv_goto (tgt := 108) hx hb dX11_act_68 (by decide) ?_
            refine lv_istore (lv' := [(5, .int ((x * 3) - (nI (ix (hdo (ix shelf)))))), (4, .int 5), (0, .ref oh), (1, .int shelf), (2, .int act), (3, .int x)]) hx hb dX11_act_108 hl (by decide) rfl (fun ls hl => ?_)
            refine lv_aload_n hx hb dX11_act_110 rfl (lv_at hl 2 rfl) ?_
            refine rg hf hk hw hinX11 0 rfl rfl 23 (by decide) w_3 rfl dX11_act_111 ?_
            refine lv_if_eq (tgt := 122) hx hb dX11_act_114 (by decide) (fun _ => ?_) (fun q => absurd (by decide) q)
            refine lv_iload hx hb dX11_act_122 (lv_at hl 0 rfl) ?_
            exact rE_i hf hr hlk hw ⟨congrArg some (by simp only [f_X11_act, if_neg c_1, if_neg c_2, if_pos c_3, if_pos c_27]; rw [e_4] <;> rfl), by simp only [f_X11_act_w1, f_X11_act_w2, f_X11_act_w3, f_X11_act_w4, if_neg c_1, if_neg c_2, if_pos c_3, if_pos c_27]; rw [e_4] <;> rfl⟩ (show ([oh, os, oho, ohe, otr] : List Nat) = [oh, os, oho, ohe, otr] from rfl) dX11_act_124
      · refine lv_iconst (v := 0) hx hb dX11_act_29 (by decide) ?_
        exact rE_i hf hr hlk hw ⟨congrArg some (by simp only [f_X11_act, if_neg c_1, if_neg c_2, if_neg c_3]), by simp only [f_X11_act_w1, f_X11_act_w2, f_X11_act_w3, f_X11_act_w4, if_neg c_1, if_neg c_2, if_neg c_3]⟩ (show ([oh, os, oho, ohe, otr] : List Nat) = [oh, os, oho, ohe, otr] from rfl) dX11_act_30
