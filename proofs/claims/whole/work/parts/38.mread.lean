theorem hdV_X11_next : yX11_next.cls = RX11 ∧ yX11_next.cls ≠ "java/lang/invoke/MethodHandle" ∧ yX11_next.cls ≠ "java/lang/invoke/VarHandle" ∧ (parseMethodDescriptor yX11_next.desc).map (fun d => d.parameters.length) = some 0 := by decide +kernel
abbrev rmX11_takesY : Room := { frames := 4, cells := 0, slots := 0, locals := 86 }
set_option maxHeartbeats 4000000 in
set_option maxRecDepth 100000 in
theorem c_X11_takesY (l : Launch) (g : GG) (oh : Nat) (os : Nat) (ok : Nat) (ol : Nat) (ord : Nat) (odd : Nat) (otp : Nat) (olt : Nat) (orw : Nat) (oso : Nat) (osz : Nat) (oit : Nat) (oho : Nat) (ohe : Nat) (otr : Nat) (stp : Nat) (laws : Nat → Int32) (z : Int32) (cnt : Nat) (fogs : Nat → Int32) (arms : Nat → Int32) (kinds : Nat → Int32) (faiths : Nat → Int32) (places : Nat → Int32) (moved : Nat → Int32) (isk : Int32) (tpd : Nat) (ovl : Int32) (rmn : Nat) (tcd : Nat) (own_ : Int32) (opt : Int32) (rr : Nat → Int32) (byt : Nat → Int32) (x0 : Nat) (one : Int32) (htz : tpd ≤ 200) (hby : ∀ j, isB (byt j)) (hx0 : x0 ≤ tpd) (hvl : vOk byt tpd x0 ovl) (htk : tkF byt tpd x0 = one) : mtR l g yX11_takes wsX11_takes rmX11_takesY [.ref oh, .int one] [cob oh 11 [.ref os, .ref ok, .ref ol, .ref ord, .int isk, .ref odd, .ref otp, .int (nI tpd), .ref olt, .int (nI (wdE byt tpd x0)), .int (nI (wdS byt tpd x0)), .int (tkF byt tpd x0), .int ovl, .ref orw, .int (nI rmn), .ref oso, .ref osz, .ref oit, .ref oho, .ref ohe, .ref otr, .int (nI tcd), .int own_, .int opt], cin g os 51 (mR stp laws z cnt fogs arms kinds faiths places moved), cin g ord 51 rr, cin g otp 200 (ubT byt), cch g olt 120 mlet] (fun rv W => rv = (some (.int 1)) ∧ ∃ (j0 : Int32), (vOk byt tpd (wdE byt tpd x0) j0) ∧ W = [cob oh 11 [.ref os, .ref ok, .ref ol, .ref ord, .int isk, .ref odd, .ref otp, .int (nI tpd), .ref olt, .int (nI (wdE byt tpd (wdE byt tpd x0))), .int (nI (wdS byt tpd (wdE byt tpd x0))), .int (tkF byt tpd (wdE byt tpd x0)), .int j0, .ref orw, .int (nI rmn), .ref oso, .ref osz, .ref oit, .ref oho, .ref ohe, .ref otr, .int (nI tcd), .int own_, .int opt], cin g os 51 (mR stp laws z cnt fogs arms kinds faiths places moved), cin g ord 51 rr, cin g otp 200 (ubT byt), cch g olt 120 mlet]) := by
  refine mtR.of (cc := cX11_takes) (nL := 3) (ret := (some .boolean)) (own := RX11) (by decide +kernel) rfl rfl (Nat.le_of_ble_eq_true rfl) (fun p e s m below meth c hf hr hlk _ hk hst hw ls hl => ?_)
  have hx := hf.1
  have hb := hf.2.1
  have hts := hf.2.2.2.2
  have hl : lv_has ls 3 [(0, .ref oh), (1, .int one)] := hl
  have h1 := wdE_b byt htz hx0
  have hinX11 : ∀ w ∈ u_ws RX11 TX11 24, w ∈ wsX11_takes := fun w h => List.mem_cons_of_mem _ (List.mem_append_right _ h)
  have w_0 : Cond.fieldLink RX11 119 "LightManModel" "token" "I" ∈ wsX11_takes := List.mem_of_getElem? (i := 1) rfl
  refine lv_aload_n hx hb dX11_takes_0 rfl (lv_at hl 0 rfl) ?_
  refine rg hf hk hw hinX11 0 rfl rfl 11 (by decide) w_0 rfl dX11_takes_1 ?_
  refine lv_iload_n hx hb dX11_takes_4 rfl (lv_at hl 1 rfl) ?_
  refine lv_icmp_ne (tgt := 12) hx hb dX11_takes_5 (by decide) (fun q => absurd (htk) q) (fun _ => ?_)
  refine lv_iconst (v := 1) hx hb dX11_takes_8 (by decide) ?_
  refine lv_goto (tgt := 13) hx hb dX11_takes_9 (by decide) ?_
  refine lv_istore_n (lv' := [(2, .int 1), (0, .ref oh), (1, .int one)]) hx hb dX11_takes_13 rfl hl (by decide) rfl (fun ls hl => ?_)
  refine lv_iload_n hx hb dX11_takes_14 rfl (lv_at hl 0 rfl) ?_
  refine lv_if_eq (tgt := 22) hx hb dX11_takes_15 (by decide) (fun q => absurd q (by decide)) (fun _ => ?_)
  refine lv_aload_n hx hb dX11_takes_18 rfl (lv_at hl 1 rfl) ?_
  refine mcVF hf hk hst hw (c_X11_next l g oh os ok ol ord odd otp olt orw oso osz oit oho ohe otr stp laws z cnt fogs arms kinds faiths places moved isk tpd (nI (wdS byt tpd x0)) (tkF byt tpd x0) ovl rmn tcd own_ opt rr byt (wdE byt tpd x0) (by omega) (by assumption) (by omega)) (cwV 0 hts gX11_takes_X11_next rfl rfl rfl hdV_X11_next ⟨Nat.le_of_ble_eq_true rfl, Nat.le_of_ble_eq_true rfl⟩) 0 rfl rfl rfl hl.1 rfl (Nat.le_of_ble_eq_true rfl) dX11_takes_19 ⟨Nat.zero_le _, Nat.zero_le _⟩ (fun rv ws2 hPo H locs hw => ?_)
  obtain ⟨rfl, u1_j0, u1_s, rfl⟩ := hPo
  refine lv_iload_n hx hb dX11_takes_22 rfl (lv_at hl 0 rfl) ?_
  exact rE_z hf hr hlk hw (rfl) ⟨rfl, u1_j0, u1_s, rfl⟩ (show ([oh, os, ord, otp, olt] : List Nat) = [oh, os, ord, otp, olt] from rfl) dX11_takes_23
abbrev rmX11_takesN : Room := { frames := 0, cells := 0, slots := 0, locals := 0 }
set_option maxHeartbeats 4000000 in
set_option maxRecDepth 100000 in
theorem c_X11_takesN (l : Launch) (g : GG) (oh : Nat) (os : Nat) (ok : Nat) (ol : Nat) (ord : Nat) (odd : Nat) (otp : Nat) (olt : Nat) (orw : Nat) (oso : Nat) (osz : Nat) (oit : Nat) (oho : Nat) (ohe : Nat) (otr : Nat) (stp : Nat) (laws : Nat → Int32) (z : Int32) (cnt : Nat) (fogs : Nat → Int32) (arms : Nat → Int32) (kinds : Nat → Int32) (faiths : Nat → Int32) (places : Nat → Int32) (moved : Nat → Int32) (isk : Int32) (tpd : Nat) (ovl : Int32) (rmn : Nat) (tcd : Nat) (own_ : Int32) (opt : Int32) (rr : Nat → Int32) (byt : Nat → Int32) (x0 : Nat) (one : Int32) (htz : tpd ≤ 200) (hby : ∀ j, isB (byt j)) (hx0 : x0 ≤ tpd) (hvl : vOk byt tpd x0 ovl) (htk : ¬ tkF byt tpd x0 = one) : mtR l g yX11_takes wsX11_takes rmX11_takesN [.ref oh, .int one] [cob oh 11 [.ref os, .ref ok, .ref ol, .ref ord, .int isk, .ref odd, .ref otp, .int (nI tpd), .ref olt, .int (nI (wdE byt tpd x0)), .int (nI (wdS byt tpd x0)), .int (tkF byt tpd x0), .int ovl, .ref orw, .int (nI rmn), .ref oso, .ref osz, .ref oit, .ref oho, .ref ohe, .ref otr, .int (nI tcd), .int own_, .int opt], cin g os 51 (mR stp laws z cnt fogs arms kinds faiths places moved), cin g ord 51 rr, cin g otp 200 (ubT byt), cch g olt 120 mlet] (fun rv W => rv = (some (.int 0)) ∧ ∃ (j0 : Int32), (vOk byt tpd x0 j0) ∧ W = [cob oh 11 [.ref os, .ref ok, .ref ol, .ref ord, .int isk, .ref odd, .ref otp, .int (nI tpd), .ref olt, .int (nI (wdE byt tpd x0)), .int (nI (wdS byt tpd x0)), .int (tkF byt tpd x0), .int j0, .ref orw, .int (nI rmn), .ref oso, .ref osz, .ref oit, .ref oho, .ref ohe, .ref otr, .int (nI tcd), .int own_, .int opt], cin g os 51 (mR stp laws z cnt fogs arms kinds faiths places moved), cin g ord 51 rr, cin g otp 200 (ubT byt), cch g olt 120 mlet]) := by
  refine mtR.of (cc := cX11_takes) (nL := 3) (ret := (some .boolean)) (own := RX11) (by decide +kernel) rfl rfl (Nat.le_of_ble_eq_true rfl) (fun p e s m below meth c hf hr hlk _ hk hst hw ls hl => ?_)
  have hx := hf.1
  have hb := hf.2.1
  have hts := hf.2.2.2.2
  have hl : lv_has ls 3 [(0, .ref oh), (1, .int one)] := hl
  have hinX11 : ∀ w ∈ u_ws RX11 TX11 24, w ∈ wsX11_takes := fun w h => List.mem_cons_of_mem _ (List.mem_append_right _ h)
  have w_0 : Cond.fieldLink RX11 119 "LightManModel" "token" "I" ∈ wsX11_takes := List.mem_of_getElem? (i := 1) rfl
  refine lv_aload_n hx hb dX11_takes_0 rfl (lv_at hl 0 rfl) ?_
  refine rg hf hk hw hinX11 0 rfl rfl 11 (by decide) w_0 rfl dX11_takes_1 ?_
  refine lv_iload_n hx hb dX11_takes_4 rfl (lv_at hl 1 rfl) ?_
  refine lv_icmp_ne (tgt := 12) hx hb dX11_takes_5 (by decide) (fun _ => ?_) (fun q => absurd q (htk))
  refine lv_iconst (v := 0) hx hb dX11_takes_12 (by decide) ?_
  refine lv_istore_n (lv' := [(2, .int 0), (0, .ref oh), (1, .int one)]) hx hb dX11_takes_13 rfl hl (by decide) rfl (fun ls hl => ?_)
  refine lv_iload_n hx hb dX11_takes_14 rfl (lv_at hl 0 rfl) ?_
  refine lv_if_eq (tgt := 22) hx hb dX11_takes_15 (by decide) (fun _ => ?_) (fun q => absurd (by decide) q)
  refine lv_iload_n hx hb dX11_takes_22 rfl (lv_at hl 0 rfl) ?_
  exact rE_z hf hr hlk hw (rfl) ⟨rfl, ovl, hvl, rfl⟩ (show ([oh, os, ord, otp, olt] : List Nat) = [oh, os, ord, otp, olt] from rfl) dX11_takes_23
abbrev rmX11_takesNumberY : Room := { frames := 4, cells := 0, slots := 0, locals := 86 }
set_option maxHeartbeats 4000000 in
set_option maxRecDepth 100000 in
theorem c_X11_takesNumberY (l : Launch) (g : GG) (oh : Nat) (os : Nat) (ok : Nat) (ol : Nat) (ord : Nat) (odd : Nat) (otp : Nat) (olt : Nat) (orw : Nat) (oso : Nat) (osz : Nat) (oit : Nat) (oho : Nat) (ohe : Nat) (otr : Nat) (stp : Nat) (laws : Nat → Int32) (z : Int32) (cnt : Nat) (fogs : Nat → Int32) (arms : Nat → Int32) (kinds : Nat → Int32) (faiths : Nat → Int32) (places : Nat → Int32) (moved : Nat → Int32) (isk : Int32) (tpd : Nat) (ovl : Int32) (rmn : Nat) (tcd : Nat) (own_ : Int32) (opt : Int32) (rr : Nat → Int32) (byt : Nat → Int32) (x0 : Nat) (most : Int32) (htz : tpd ≤ 200) (hby : ∀ j, isB (byt j)) (hx0 : x0 ≤ tpd) (hvl : vOk byt tpd x0 ovl) (hrd : 0 ≤ rdN byt tpd x0 most) : mtR l g yX11_takesNumber wsX11_takesNumber rmX11_takesNumberY [.ref oh, .int most] [cob oh 11 [.ref os, .ref ok, .ref ol, .ref ord, .int isk, .ref odd, .ref otp, .int (nI tpd), .ref olt, .int (nI (wdE byt tpd x0)), .int (nI (wdS byt tpd x0)), .int (tkF byt tpd x0), .int ovl, .ref orw, .int (nI rmn), .ref oso, .ref osz, .ref oit, .ref oho, .ref ohe, .ref otr, .int (nI tcd), .int own_, .int opt], cin g os 51 (mR stp laws z cnt fogs arms kinds faiths places moved), cin g ord 51 rr, cin g otp 200 (ubT byt), cch g olt 120 mlet] (fun rv W => rv = (some (.int (rdN byt tpd x0 most))) ∧ ∃ (j0 : Int32), (vOk byt tpd (wdE byt tpd x0) j0) ∧ W = [cob oh 11 [.ref os, .ref ok, .ref ol, .ref ord, .int isk, .ref odd, .ref otp, .int (nI tpd), .ref olt, .int (nI (wdE byt tpd (wdE byt tpd x0))), .int (nI (wdS byt tpd (wdE byt tpd x0))), .int (tkF byt tpd (wdE byt tpd x0)), .int j0, .ref orw, .int (nI rmn), .ref oso, .ref osz, .ref oit, .ref oho, .ref ohe, .ref otr, .int (nI tcd), .int own_, .int opt], cin g os 51 (mR stp laws z cnt fogs arms kinds faiths places moved), cin g ord 51 rr, cin g otp 200 (ubT byt), cch g olt 120 mlet]) := by
  refine mtR.of (cc := cX11_takesNumber) (nL := 3) (ret := (some .int)) (own := RX11) (by decide +kernel) rfl rfl (Nat.le_of_ble_eq_true rfl) (fun p e s m below meth c hf hr hlk _ hk hst hw ls hl => ?_)
  have hx := hf.1
  have hb := hf.2.1
  have hts := hf.2.2.2.2
  have hl : lv_has ls 3 [(0, .ref oh), (1, .int most)] := hl
  have h1 := wdE_b byt htz hx0
  have hinX11 : ∀ w ∈ u_ws RX11 TX11 24, w ∈ wsX11_takesNumber := fun w h => List.mem_cons_of_mem _ (List.mem_append_right _ h)
  have w_0 : Cond.fieldLink RX11 119 "LightManModel" "token" "I" ∈ wsX11_takesNumber := List.mem_of_getElem? (i := 1) rfl
  have w_1 : Cond.fieldLink RX11 125 "LightManModel" "value" "I" ∈ wsX11_takesNumber := List.mem_of_getElem? (i := 2) rfl
  refine lv_aload_n hx hb dX11_takesNumber_0 rfl (lv_at hl 0 rfl) ?_
  refine rg hf hk hw hinX11 0 rfl rfl 11 (by decide) w_0 rfl dX11_takesNumber_1 ?_
  refine lv_bipush (v := 100) hx hb dX11_takesNumber_4 (by decide) ?_
  refine lv_icmp_ne (tgt := 24) hx hb dX11_takesNumber_6 (by decide) (fun c_1 => ?_) (fun c_1 => ?_)
  · have ht := c_1
    refine lv_iconst (v := (-1)) hx hb dX11_takesNumber_24 (by decide) ?_
    refine lv_tope (y := rdN byt tpd x0 most) (rd_n1 hby ht) ?_
    refine lv_istore_n (lv' := [(2, .int (rdN byt tpd x0 most)), (0, .ref oh), (1, .int most)]) hx hb dX11_takesNumber_25 rfl hl (by decide) rfl (fun ls hl => ?_)
    refine lv_iload_n hx hb dX11_takesNumber_26 rfl (lv_at hl 0 rfl) ?_
    refine lv_if_lt (tgt := 34) hx hb dX11_takesNumber_27 (by decide) (fun q => absurd q (Int32.not_lt.mpr hrd)) (fun _ => ?_)
    refine lv_aload_n hx hb dX11_takesNumber_30 rfl (lv_at hl 1 rfl) ?_
    refine mcVF hf hk hst hw (c_X11_next l g oh os ok ol ord odd otp olt orw oso osz oit oho ohe otr stp laws z cnt fogs arms kinds faiths places moved isk tpd (nI (wdS byt tpd x0)) (tkF byt tpd x0) ovl rmn tcd own_ opt rr byt (wdE byt tpd x0) (by omega) (by assumption) (by omega)) (cwV 0 hts gX11_takesNumber_X11_next rfl rfl rfl hdV_X11_next ⟨Nat.le_of_ble_eq_true rfl, Nat.le_of_ble_eq_true rfl⟩) 0 rfl rfl rfl hl.1 rfl (Nat.le_of_ble_eq_true rfl) dX11_takesNumber_31 ⟨Nat.zero_le _, Nat.zero_le _⟩ (fun rv ws2 hPo H locs hw => ?_)
    obtain ⟨rfl, u2_j0, u2_s, rfl⟩ := hPo
    refine lv_iload_n hx hb dX11_takesNumber_34 rfl (lv_at hl 0 rfl) ?_
    exact rE_i hf hr hlk hw ⟨rfl, u2_j0, u2_s, rfl⟩ (show ([oh, os, ord, otp, olt] : List Nat) = [oh, os, ord, otp, olt] from rfl) dX11_takesNumber_35
  · have ht := c_1
    refine lv_aload_n hx hb dX11_takesNumber_9 rfl (lv_at hl 0 rfl) ?_
    refine rg hf hk hw hinX11 0 rfl rfl 12 (by decide) w_1 rfl dX11_takesNumber_10 ?_
    refine lv_iload_n hx hb dX11_takesNumber_13 rfl (lv_at hl 1 rfl) ?_
    refine lv_icmp_gt (tgt := 24) hx hb dX11_takesNumber_14 (by decide) (fun c_3 => ?_) (fun c_3 => ?_)
    · have hmo := c_3
      refine lv_iconst (v := (-1)) hx hb dX11_takesNumber_24 (by decide) ?_
      refine lv_tope (y := rdN byt tpd x0 most) (rd_n2 hby ht hvl hmo) ?_
      refine lv_istore_n (lv' := [(2, .int (rdN byt tpd x0 most)), (0, .ref oh), (1, .int most)]) hx hb dX11_takesNumber_25 rfl hl (by decide) rfl (fun ls hl => ?_)
      refine lv_iload_n hx hb dX11_takesNumber_26 rfl (lv_at hl 0 rfl) ?_
      refine lv_if_lt (tgt := 34) hx hb dX11_takesNumber_27 (by decide) (fun q => absurd q (Int32.not_lt.mpr hrd)) (fun _ => ?_)
      refine lv_aload_n hx hb dX11_takesNumber_30 rfl (lv_at hl 1 rfl) ?_
      refine mcVF hf hk hst hw (c_X11_next l g oh os ok ol ord odd otp olt orw oso osz oit oho ohe otr stp laws z cnt fogs arms kinds faiths places moved isk tpd (nI (wdS byt tpd x0)) (tkF byt tpd x0) ovl rmn tcd own_ opt rr byt (wdE byt tpd x0) (by omega) (by assumption) (by omega)) (cwV 0 hts gX11_takesNumber_X11_next rfl rfl rfl hdV_X11_next ⟨Nat.le_of_ble_eq_true rfl, Nat.le_of_ble_eq_true rfl⟩) 0 rfl rfl rfl hl.1 rfl (Nat.le_of_ble_eq_true rfl) dX11_takesNumber_31 ⟨Nat.zero_le _, Nat.zero_le _⟩ (fun rv ws2 hPo H locs hw => ?_)
      obtain ⟨rfl, u4_j0, u4_s, rfl⟩ := hPo
      refine lv_iload_n hx hb dX11_takesNumber_34 rfl (lv_at hl 0 rfl) ?_
      exact rE_i hf hr hlk hw ⟨rfl, u4_j0, u4_s, rfl⟩ (show ([oh, os, ord, otp, olt] : List Nat) = [oh, os, ord, otp, olt] from rfl) dX11_takesNumber_35
    · have hmo := c_3
      refine lv_aload_n hx hb dX11_takesNumber_17 rfl (lv_at hl 0 rfl) ?_
      refine rg hf hk hw hinX11 0 rfl rfl 12 (by decide) w_1 rfl dX11_takesNumber_18 ?_
      refine lv_tope (y := rdN byt tpd x0 most) (rd_y hby ht hvl hmo) ?_
      refine lv_goto (tgt := 25) hx hb dX11_takesNumber_21 (by decide) ?_
      refine lv_istore_n (lv' := [(2, .int (rdN byt tpd x0 most)), (0, .ref oh), (1, .int most)]) hx hb dX11_takesNumber_25 rfl hl (by decide) rfl (fun ls hl => ?_)
      refine lv_iload_n hx hb dX11_takesNumber_26 rfl (lv_at hl 0 rfl) ?_
      refine lv_if_lt (tgt := 34) hx hb dX11_takesNumber_27 (by decide) (fun q => absurd q (Int32.not_lt.mpr hrd)) (fun _ => ?_)
      refine lv_aload_n hx hb dX11_takesNumber_30 rfl (lv_at hl 1 rfl) ?_
      refine mcVF hf hk hst hw (c_X11_next l g oh os ok ol ord odd otp olt orw oso osz oit oho ohe otr stp laws z cnt fogs arms kinds faiths places moved isk tpd (nI (wdS byt tpd x0)) (tkF byt tpd x0) ovl rmn tcd own_ opt rr byt (wdE byt tpd x0) (by omega) (by assumption) (by omega)) (cwV 0 hts gX11_takesNumber_X11_next rfl rfl rfl hdV_X11_next ⟨Nat.le_of_ble_eq_true rfl, Nat.le_of_ble_eq_true rfl⟩) 0 rfl rfl rfl hl.1 rfl (Nat.le_of_ble_eq_true rfl) dX11_takesNumber_31 ⟨Nat.zero_le _, Nat.zero_le _⟩ (fun rv ws2 hPo H locs hw => ?_)
      obtain ⟨rfl, u5_j0, u5_s, rfl⟩ := hPo
      refine lv_iload_n hx hb dX11_takesNumber_34 rfl (lv_at hl 0 rfl) ?_
      exact rE_i hf hr hlk hw ⟨rfl, u5_j0, u5_s, rfl⟩ (show ([oh, os, ord, otp, olt] : List Nat) = [oh, os, ord, otp, olt] from rfl) dX11_takesNumber_35
abbrev rmX11_takesNumberN : Room := { frames := 0, cells := 0, slots := 0, locals := 0 }
set_option maxHeartbeats 4000000 in
set_option maxRecDepth 100000 in
theorem c_X11_takesNumberN (l : Launch) (g : GG) (oh : Nat) (os : Nat) (ok : Nat) (ol : Nat) (ord : Nat) (odd : Nat) (otp : Nat) (olt : Nat) (orw : Nat) (oso : Nat) (osz : Nat) (oit : Nat) (oho : Nat) (ohe : Nat) (otr : Nat) (stp : Nat) (laws : Nat → Int32) (z : Int32) (cnt : Nat) (fogs : Nat → Int32) (arms : Nat → Int32) (kinds : Nat → Int32) (faiths : Nat → Int32) (places : Nat → Int32) (moved : Nat → Int32) (isk : Int32) (tpd : Nat) (ovl : Int32) (rmn : Nat) (tcd : Nat) (own_ : Int32) (opt : Int32) (rr : Nat → Int32) (byt : Nat → Int32) (x0 : Nat) (most : Int32) (htz : tpd ≤ 200) (hby : ∀ j, isB (byt j)) (hx0 : x0 ≤ tpd) (hvl : vOk byt tpd x0 ovl) (hrd : ¬ 0 ≤ rdN byt tpd x0 most) : mtR l g yX11_takesNumber wsX11_takesNumber rmX11_takesNumberN [.ref oh, .int most] [cob oh 11 [.ref os, .ref ok, .ref ol, .ref ord, .int isk, .ref odd, .ref otp, .int (nI tpd), .ref olt, .int (nI (wdE byt tpd x0)), .int (nI (wdS byt tpd x0)), .int (tkF byt tpd x0), .int ovl, .ref orw, .int (nI rmn), .ref oso, .ref osz, .ref oit, .ref oho, .ref ohe, .ref otr, .int (nI tcd), .int own_, .int opt], cin g os 51 (mR stp laws z cnt fogs arms kinds faiths places moved), cin g ord 51 rr, cin g otp 200 (ubT byt), cch g olt 120 mlet] (fun rv W => rv = (some (.int (rdN byt tpd x0 most))) ∧ ∃ (j0 : Int32), (vOk byt tpd x0 j0) ∧ W = [cob oh 11 [.ref os, .ref ok, .ref ol, .ref ord, .int isk, .ref odd, .ref otp, .int (nI tpd), .ref olt, .int (nI (wdE byt tpd x0)), .int (nI (wdS byt tpd x0)), .int (tkF byt tpd x0), .int j0, .ref orw, .int (nI rmn), .ref oso, .ref osz, .ref oit, .ref oho, .ref ohe, .ref otr, .int (nI tcd), .int own_, .int opt], cin g os 51 (mR stp laws z cnt fogs arms kinds faiths places moved), cin g ord 51 rr, cin g otp 200 (ubT byt), cch g olt 120 mlet]) := by
  refine mtR.of (cc := cX11_takesNumber) (nL := 3) (ret := (some .int)) (own := RX11) (by decide +kernel) rfl rfl (Nat.le_of_ble_eq_true rfl) (fun p e s m below meth c hf hr hlk _ hk hst hw ls hl => ?_)
  have hx := hf.1
  have hb := hf.2.1
  have hts := hf.2.2.2.2
  have hl : lv_has ls 3 [(0, .ref oh), (1, .int most)] := hl
  have h1 := wdE_b byt htz hx0
  have hinX11 : ∀ w ∈ u_ws RX11 TX11 24, w ∈ wsX11_takesNumber := fun w h => List.mem_cons_of_mem _ (List.mem_append_right _ h)
  have w_0 : Cond.fieldLink RX11 119 "LightManModel" "token" "I" ∈ wsX11_takesNumber := List.mem_of_getElem? (i := 1) rfl
  have w_1 : Cond.fieldLink RX11 125 "LightManModel" "value" "I" ∈ wsX11_takesNumber := List.mem_of_getElem? (i := 2) rfl
  refine lv_aload_n hx hb dX11_takesNumber_0 rfl (lv_at hl 0 rfl) ?_
  refine rg hf hk hw hinX11 0 rfl rfl 11 (by decide) w_0 rfl dX11_takesNumber_1 ?_
  refine lv_bipush (v := 100) hx hb dX11_takesNumber_4 (by decide) ?_
  refine lv_icmp_ne (tgt := 24) hx hb dX11_takesNumber_6 (by decide) (fun c_1 => ?_) (fun c_1 => ?_)
  · have ht := c_1
    refine lv_iconst (v := (-1)) hx hb dX11_takesNumber_24 (by decide) ?_
    refine lv_tope (y := rdN byt tpd x0 most) (rd_n1 hby ht) ?_
    refine lv_istore_n (lv' := [(2, .int (rdN byt tpd x0 most)), (0, .ref oh), (1, .int most)]) hx hb dX11_takesNumber_25 rfl hl (by decide) rfl (fun ls hl => ?_)
    refine lv_iload_n hx hb dX11_takesNumber_26 rfl (lv_at hl 0 rfl) ?_
    refine lv_if_lt (tgt := 34) hx hb dX11_takesNumber_27 (by decide) (fun _ => ?_) (fun q => absurd (Int32.not_le.mp hrd) q)
    refine lv_iload_n hx hb dX11_takesNumber_34 rfl (lv_at hl 0 rfl) ?_
    exact rE_i hf hr hlk hw ⟨rfl, ovl, hvl, rfl⟩ (show ([oh, os, ord, otp, olt] : List Nat) = [oh, os, ord, otp, olt] from rfl) dX11_takesNumber_35
  · have ht := c_1
    refine lv_aload_n hx hb dX11_takesNumber_9 rfl (lv_at hl 0 rfl) ?_
    refine rg hf hk hw hinX11 0 rfl rfl 12 (by decide) w_1 rfl dX11_takesNumber_10 ?_
    refine lv_iload_n hx hb dX11_takesNumber_13 rfl (lv_at hl 1 rfl) ?_
    refine lv_icmp_gt (tgt := 24) hx hb dX11_takesNumber_14 (by decide) (fun c_2 => ?_) (fun c_2 => ?_)
    · have hmo := c_2
      refine lv_iconst (v := (-1)) hx hb dX11_takesNumber_24 (by decide) ?_
      refine lv_tope (y := rdN byt tpd x0 most) (rd_n2 hby ht hvl hmo) ?_
      refine lv_istore_n (lv' := [(2, .int (rdN byt tpd x0 most)), (0, .ref oh), (1, .int most)]) hx hb dX11_takesNumber_25 rfl hl (by decide) rfl (fun ls hl => ?_)
      refine lv_iload_n hx hb dX11_takesNumber_26 rfl (lv_at hl 0 rfl) ?_
      refine lv_if_lt (tgt := 34) hx hb dX11_takesNumber_27 (by decide) (fun _ => ?_) (fun q => absurd (Int32.not_le.mp hrd) q)
      refine lv_iload_n hx hb dX11_takesNumber_34 rfl (lv_at hl 0 rfl) ?_
      exact rE_i hf hr hlk hw ⟨rfl, ovl, hvl, rfl⟩ (show ([oh, os, ord, otp, olt] : List Nat) = [oh, os, ord, otp, olt] from rfl) dX11_takesNumber_35
    · have hmo := c_2
      refine lv_aload_n hx hb dX11_takesNumber_17 rfl (lv_at hl 0 rfl) ?_
      refine rg hf hk hw hinX11 0 rfl rfl 12 (by decide) w_1 rfl dX11_takesNumber_18 ?_
      refine lv_tope (y := rdN byt tpd x0 most) (rd_y hby ht hvl hmo) ?_
      refine lv_goto (tgt := 25) hx hb dX11_takesNumber_21 (by decide) ?_
      refine lv_istore_n (lv' := [(2, .int (rdN byt tpd x0 most)), (0, .ref oh), (1, .int most)]) hx hb dX11_takesNumber_25 rfl hl (by decide) rfl (fun ls hl => ?_)
      refine lv_iload_n hx hb dX11_takesNumber_26 rfl (lv_at hl 0 rfl) ?_
      refine lv_if_lt (tgt := 34) hx hb dX11_takesNumber_27 (by decide) (fun _ => ?_) (fun q => absurd (Int32.not_le.mp hrd) q)
      refine lv_iload_n hx hb dX11_takesNumber_34 rfl (lv_at hl 0 rfl) ?_
      exact rE_i hf hr hlk hw ⟨rfl, ovl, hvl, rfl⟩ (show ([oh, os, ord, otp, olt] : List Nat) = [oh, os, ord, otp, olt] from rfl) dX11_takesNumber_35
/-- a goer's sentence up to its semicolon -/
def rgF (byt : Nat → Int32) (tsz x0 cnt : Nat) : Int32 := if (nI cnt) < 8 then (if (nmR byt (wdO byt tsz (wdE byt tsz x0)) (wdS byt tsz (wdE byt tsz x0)) (wdE byt tsz (wdE byt tsz x0)) 12) = 0 then 0 else (if 0 ≤ (rdN byt tsz (wdE byt tsz (wdE byt tsz x0)) 11) then (if (nmR byt (wdO byt tsz (wdE byt tsz (wdE byt tsz (wdE byt tsz x0)))) (wdS byt tsz (wdE byt tsz (wdE byt tsz (wdE byt tsz x0)))) (wdE byt tsz (wdE byt tsz (wdE byt tsz (wdE byt tsz x0)))) 14) = 0 then 1 else (if 0 ≤ (rdN byt tsz (wdE byt tsz (wdE byt tsz (wdE byt tsz (wdE byt tsz x0)))) 99) then 1 else 0)) else 0)) else 0
/-- its faith -/
def rgV (byt : Nat → Int32) (tsz x0 : Nat) : Int32 := if (nmR byt (wdO byt tsz (wdE byt tsz (wdE byt tsz (wdE byt tsz x0)))) (wdS byt tsz (wdE byt tsz (wdE byt tsz (wdE byt tsz x0)))) (wdE byt tsz (wdE byt tsz (wdE byt tsz (wdE byt tsz x0)))) 14) = 0 then 50 else rdN byt tsz (wdE byt tsz (wdE byt tsz (wdE byt tsz (wdE byt tsz x0)))) 99
/-- a roster's sentence up to its semicolon -/
def roF (byt : Nat → Int32) (tsz x0 : Nat) : Int32 := if 0 ≤ (rdN byt tsz (wdE byt tsz x0) 5) then (if (nmR byt (wdO byt tsz (wdE byt tsz (wdE byt tsz x0))) (wdS byt tsz (wdE byt tsz (wdE byt tsz x0))) (wdE byt tsz (wdE byt tsz (wdE byt tsz x0))) 13) = 0 then 0 else (if 0 ≤ (rdN byt tsz (wdE byt tsz (wdE byt tsz (wdE byt tsz x0))) 9) then 1 else 0)) else 0
def lwF (byt : Nat → Int32) (tsz x0 lw : Nat) : Int32 := if 0 ≤ (rdN byt tsz (wdE byt tsz x0) (tq_most lw)) then 1 else 0
theorem hdV_X11_takes : yX11_takes.cls = RX11 ∧ yX11_takes.cls ≠ "java/lang/invoke/MethodHandle" ∧ yX11_takes.cls ≠ "java/lang/invoke/VarHandle" ∧ (parseMethodDescriptor yX11_takes.desc).map (fun d => d.parameters.length) = some 1 := by decide +kernel
theorem hdV_X11_takesNumber : yX11_takesNumber.cls = RX11 ∧ yX11_takesNumber.cls ≠ "java/lang/invoke/MethodHandle" ∧ yX11_takesNumber.cls ≠ "java/lang/invoke/VarHandle" ∧ (parseMethodDescriptor yX11_takesNumber.desc).map (fun d => d.parameters.length) = some 1 := by decide +kernel
abbrev rmX11_readsGoer : Room := { frames := 5, cells := 0, slots := 0, locals := 108 }
set_option maxHeartbeats 4000000 in
set_option maxRecDepth 100000 in
theorem c_X11_readsGoer (l : Launch) (g : GG) (oh : Nat) (os : Nat) (ok : Nat) (ol : Nat) (ord : Nat) (odd : Nat) (otp : Nat) (olt : Nat) (orw : Nat) (oso : Nat) (osz : Nat) (oit : Nat) (oho : Nat) (ohe : Nat) (otr : Nat) (stp : Nat) (laws : Nat → Int32) (z : Int32) (cnt : Nat) (fogs : Nat → Int32) (arms : Nat → Int32) (kinds : Nat → Int32) (faiths : Nat → Int32) (places : Nat → Int32) (moved : Nat → Int32) (isk : Int32) (tpd : Nat) (ovl : Int32) (rmn : Nat) (tcd : Nat) (own_ : Int32) (opt : Int32) (byt : Nat → Int32) (x0 : Nat) (qstp : Nat) (qlaws : Nat → Int32) (qz : Int32) (qcnt : Nat) (qfogs : Nat → Int32) (qarms : Nat → Int32) (qkinds : Nat → Int32) (qfaiths : Nat → Int32) (qplaces : Nat → Int32) (qmoved : Nat → Int32) (kd : Int32) (htz : tpd ≤ 200) (hby : ∀ j, isB (byt j)) (hx0 : x0 ≤ tpd) (hvl : vOk byt tpd x0 ovl) (hcn : qcnt ≤ 8) : mtR l g yX11_readsGoer wsX11_readsGoer rmX11_readsGoer [.ref oh, .int kd] [cob oh 11 [.ref os, .ref ok, .ref ol, .ref ord, .int isk, .ref odd, .ref otp, .int (nI tpd), .ref olt, .int (nI (wdE byt tpd x0)), .int (nI (wdS byt tpd x0)), .int (tkF byt tpd x0), .int ovl, .ref orw, .int (nI rmn), .ref oso, .ref osz, .ref oit, .ref oho, .ref ohe, .ref otr, .int (nI tcd), .int own_, .int opt], cin g os 51 (mR stp laws z cnt fogs arms kinds faiths places moved), cin g ord 51 (mR qstp qlaws qz qcnt qfogs qarms qkinds qfaiths qplaces qmoved), cin g otp 200 (ubT byt), cch g olt 120 mlet] (fun rv W => rv = (some (.int (rgF byt tpd x0 qcnt))) ∧ ∃ (j0 : Int32) (j1 : Nat → Int32), (vOk byt tpd (f_X7_readGoer_x tpd byt x0 qcnt) j0 ∧ (¬ (rgF byt tpd x0 qcnt) = 0 → j1 = mR qstp qlaws qz (qcnt + 1) qfogs qarms (upd qkinds qcnt kd) (upd qfaiths qcnt (rgV byt tpd x0)) (upd qplaces qcnt (rdN byt tpd (wdE byt tpd (wdE byt tpd x0)) 11)) qmoved)) ∧ W = [cob oh 11 [.ref os, .ref ok, .ref ol, .ref ord, .int isk, .ref odd, .ref otp, .int (nI tpd), .ref olt, .int (nI (wdE byt tpd (f_X7_readGoer_x tpd byt x0 qcnt))), .int (nI (wdS byt tpd (f_X7_readGoer_x tpd byt x0 qcnt))), .int (tkF byt tpd (f_X7_readGoer_x tpd byt x0 qcnt)), .int j0, .ref orw, .int (nI rmn), .ref oso, .ref osz, .ref oit, .ref oho, .ref ohe, .ref otr, .int (nI tcd), .int own_, .int opt], cin g os 51 (mR stp laws z cnt fogs arms kinds faiths places moved), cin g ord 51 j1, cin g otp 200 (ubT byt), cch g olt 120 mlet]) := by
  refine mtR.of (cc := cX11_readsGoer) (nL := 5) (ret := (some .boolean)) (own := RX11) (by decide +kernel) rfl rfl (Nat.le_of_ble_eq_true rfl) (fun p e s m below meth c hf hr hlk _ hk hst hw ls hl => ?_)
  have hx := hf.1
  have hb := hf.2.1
  have hts := hf.2.2.2.2
  have hl : lv_has ls 5 [(0, .ref oh), (1, .int kd)] := hl
  have h1 := wdE_b byt htz hx0
  have h2 := wdE_b byt htz h1.2
  have h3 := wdE_b byt htz h2.2
  have h4 := wdE_b byt htz h3.2
  have h5 := wdE_b byt htz h4.2
  have h6 := wdE_b byt htz h5.2
  have hinX11 : ∀ w ∈ u_ws RX11 TX11 24, w ∈ wsX11_readsGoer := fun w h => List.mem_cons_of_mem _ (List.mem_append_right _ h)
  have w_0 : Cond.fieldLink RX11 19 "LightManModel" "read" "[I" ∈ wsX11_readsGoer := List.mem_of_getElem? (i := 1) rfl
  refine lv_aload_n hx hb dX11_readsGoer_0 rfl (lv_at hl 0 rfl) ?_
  refine rg hf hk hw hinX11 0 rfl rfl 3 (by decide) w_0 rfl dX11_readsGoer_1 ?_
  refine lv_bipush (v := 6) hx hb dX11_readsGoer_4 (by decide) ?_
  refine rij hf hk hw 2 rfl (j := 6) (vp_in_nI (n := 6) (by omega) (by omega)) (rfl) dX11_readsGoer_6 ?_
  refine lv_tope (y := nI qcnt) (rfl) ?_
  refine lv_bipush (v := 8) hx hb dX11_readsGoer_7 (by decide) ?_
  refine lv_icmp_ne (tgt := 14) hx hb dX11_readsGoer_9 (by decide) (fun c_1 => ?_) (fun c_1 => ?_)
  · have hc8 : nI qcnt < 8 := nI_lt (b := 8) (by have h : ¬ qcnt = 8 := fun h => c_1 (by rw [h]; rfl); omega) (by omega)
    have hc9 : qcnt < 8 := by have h : ¬ qcnt = 8 := fun h => c_1 (by rw [h]; rfl); omega
    refine lv_aload_n hx hb dX11_readsGoer_14 rfl (lv_at hl 0 rfl) ?_
    refine mcVF hf hk hst hw (c_X11_next l g oh os ok ol ord odd otp olt orw oso osz oit oho ohe otr stp laws z cnt fogs arms kinds faiths places moved isk tpd (nI (wdS byt tpd x0)) (tkF byt tpd x0) ovl rmn tcd own_ opt (mR qstp qlaws qz qcnt qfogs qarms qkinds qfaiths qplaces qmoved) byt (wdE byt tpd x0) (by omega) (by assumption) (by omega)) (cwV 0 hts gX11_readsGoer_X11_next rfl rfl rfl hdV_X11_next ⟨Nat.le_of_ble_eq_true rfl, Nat.le_of_ble_eq_true rfl⟩) 0 rfl rfl rfl hl.1 rfl (Nat.le_of_ble_eq_true rfl) dX11_readsGoer_15 ⟨Nat.zero_le _, Nat.zero_le _⟩ (fun rv ws2 hPo H locs hw => ?_)
    obtain ⟨rfl, u2_j0, u2_s, rfl⟩ := hPo
    refine lv_aload_n hx hb dX11_readsGoer_18 rfl (lv_at hl 0 rfl) ?_
    refine lv_bipush (v := 12) hx hb dX11_readsGoer_19 (by decide) ?_
    by_cases c_3 : nmR byt (wdO byt tpd (wdE byt tpd x0)) (wdS byt tpd (wdE byt tpd x0)) (wdE byt tpd (wdE byt tpd x0)) 12 = 0
    · refine mcVF hf hk hst hw (c_X11_takesN l g oh os ok ol ord odd otp olt orw oso osz oit oho ohe otr stp laws z cnt fogs arms kinds faiths places moved isk tpd u2_j0 rmn tcd own_ opt (mR qstp qlaws qz qcnt qfogs qarms qkinds qfaiths qplaces qmoved) byt (wdE byt tpd x0) 12 (by omega) (by assumption) (by omega) (u2_s) (fun h => (tk_nm hby (w := 12) (by decide)).mp h c_3)) (cwV 1 hts gX11_readsGoer_X11_takes rfl rfl rfl hdV_X11_takes ⟨Nat.le_of_ble_eq_true rfl, Nat.le_of_ble_eq_true rfl⟩) 0 rfl rfl rfl hl.1 rfl (Nat.le_of_ble_eq_true rfl) dX11_readsGoer_21 ⟨Nat.zero_le _, Nat.zero_le _⟩ (fun rv ws2 hPo H locs hw => ?_)
      obtain ⟨rfl, u4_j0, u4_s, rfl⟩ := hPo
      refine lv_if_ne (tgt := 29) hx hb dX11_readsGoer_24 (by decide) (fun q => absurd (by decide) q) (fun _ => ?_)
      refine lv_iconst (v := 0) hx hb dX11_readsGoer_27 (by decide) ?_
      exact rE_z hf hr hlk hw (rfl) ⟨congrArg some (by simp only [rgF, if_pos hc8, if_pos c_3]), u4_j0, (mR qstp qlaws qz qcnt qfogs qarms qkinds qfaiths qplaces qmoved), ⟨by simp only [f_X7_readGoer_x, if_pos hc8, if_pos c_3]; exact u4_s, fun h => absurd (show (rgF byt tpd x0 qcnt) = 0 by simp only [rgF, if_pos hc8, if_pos c_3]) h⟩, by simp only [f_X7_readGoer_x, if_pos hc8, if_pos c_3]⟩ (show ([oh, os, ord, otp, olt] : List Nat) = [oh, os, ord, otp, olt] from rfl) dX11_readsGoer_28
    · refine mcVF hf hk hst hw (c_X11_takesY l g oh os ok ol ord odd otp olt orw oso osz oit oho ohe otr stp laws z cnt fogs arms kinds faiths places moved isk tpd u2_j0 rmn tcd own_ opt (mR qstp qlaws qz qcnt qfogs qarms qkinds qfaiths qplaces qmoved) byt (wdE byt tpd x0) 12 (by omega) (by assumption) (by omega) (u2_s) ((tk_nm hby (w := 12) (by decide)).mpr c_3)) (cwV 1 hts gX11_readsGoer_X11_takes rfl rfl rfl hdV_X11_takes ⟨Nat.le_of_ble_eq_true rfl, Nat.le_of_ble_eq_true rfl⟩) 0 rfl rfl rfl hl.1 rfl (Nat.le_of_ble_eq_true rfl) dX11_readsGoer_21 ⟨Nat.zero_le _, Nat.zero_le _⟩ (fun rv ws2 hPo H locs hw => ?_)
      obtain ⟨rfl, u5_j0, u5_s, rfl⟩ := hPo
      refine lv_if_ne (tgt := 29) hx hb dX11_readsGoer_24 (by decide) (fun _ => ?_) (fun q => absurd q (by decide))
      refine lv_aload_n hx hb dX11_readsGoer_29 rfl (lv_at hl 0 rfl) ?_
      refine lv_bipush (v := 11) hx hb dX11_readsGoer_30 (by decide) ?_
      by_cases c_6 : 0 ≤ (rdN byt tpd (wdE byt tpd (wdE byt tpd x0)) 11)
      · refine mcVF hf hk hst hw (c_X11_takesNumberY l g oh os ok ol ord odd otp olt orw oso osz oit oho ohe otr stp laws z cnt fogs arms kinds faiths places moved isk tpd u5_j0 rmn tcd own_ opt (mR qstp qlaws qz qcnt qfogs qarms qkinds qfaiths qplaces qmoved) byt (wdE byt tpd (wdE byt tpd x0)) 11 (by omega) (by assumption) (by omega) (u5_s) (c_6)) (cwV 1 hts gX11_readsGoer_X11_takesNumber rfl rfl rfl hdV_X11_takesNumber ⟨Nat.le_of_ble_eq_true rfl, Nat.le_of_ble_eq_true rfl⟩) 0 rfl rfl rfl hl.1 rfl (Nat.le_of_ble_eq_true rfl) dX11_readsGoer_32 ⟨Nat.zero_le _, Nat.zero_le _⟩ (fun rv ws2 hPo H locs hw => ?_)
        obtain ⟨rfl, u7_j0, u7_s, rfl⟩ := hPo
        refine lv_istore_n (lv' := [(2, .int (rdN byt tpd (wdE byt tpd (wdE byt tpd x0)) 11)), (0, .ref oh), (1, .int kd)]) hx hb dX11_readsGoer_35 rfl hl (by decide) rfl (fun ls hl => ?_)
        refine lv_bipush (v := 50) hx hb dX11_readsGoer_36 (by decide) ?_
        refine lv_istore_n (lv' := [(3, .int 50), (2, .int (rdN byt tpd (wdE byt tpd (wdE byt tpd x0)) 11)), (0, .ref oh), (1, .int kd)]) hx hb dX11_readsGoer_38 rfl hl (by decide) rfl (fun ls hl => ?_)
        refine lv_iload_n hx hb dX11_readsGoer_39 rfl (lv_at hl 1 rfl) ?_
        refine lv_if_lt (tgt := 59) hx hb dX11_readsGoer_40 (by decide) (fun q => absurd q (Int32.not_lt.mpr c_6)) (fun _ => ?_)
        refine lv_aload_n hx hb dX11_readsGoer_43 rfl (lv_at hl 2 rfl) ?_
        refine lv_bipush (v := 14) hx hb dX11_readsGoer_44 (by decide) ?_
        by_cases c_8 : nmR byt (wdO byt tpd (wdE byt tpd (wdE byt tpd (wdE byt tpd x0)))) (wdS byt tpd (wdE byt tpd (wdE byt tpd (wdE byt tpd x0)))) (wdE byt tpd (wdE byt tpd (wdE byt tpd (wdE byt tpd x0)))) 14 = 0
        · refine mcVF hf hk hst hw (c_X11_takesN l g oh os ok ol ord odd otp olt orw oso osz oit oho ohe otr stp laws z cnt fogs arms kinds faiths places moved isk tpd u7_j0 rmn tcd own_ opt (mR qstp qlaws qz qcnt qfogs qarms qkinds qfaiths qplaces qmoved) byt (wdE byt tpd (wdE byt tpd (wdE byt tpd x0))) 14 (by omega) (by assumption) (by omega) (u7_s) (fun h => (tk_nm hby (w := 14) (by decide)).mp h c_8)) (cwV 1 hts gX11_readsGoer_X11_takes rfl rfl rfl hdV_X11_takes ⟨Nat.le_of_ble_eq_true rfl, Nat.le_of_ble_eq_true rfl⟩) 0 rfl rfl rfl hl.1 rfl (Nat.le_of_ble_eq_true rfl) dX11_readsGoer_46 ⟨Nat.zero_le _, Nat.zero_le _⟩ (fun rv ws2 hPo H locs hw => ?_)
          obtain ⟨rfl, u9_j0, u9_s, rfl⟩ := hPo
          refine lv_if_eq (tgt := 59) hx hb dX11_readsGoer_49 (by decide) (fun _ => ?_) (fun q => absurd (by decide) q)
          refine lv_bipush (v := 19) hx hb dX11_readsGoer_59 (by decide) ?_
          refine lv_iconst (v := 4) hx hb dX11_readsGoer_61 (by decide) ?_
          refine lv_aload_n hx hb dX11_readsGoer_62 rfl (lv_at hl 2 rfl) ?_
          refine rg hf hk hw hinX11 0 rfl rfl 3 (by decide) w_0 rfl dX11_readsGoer_63 ?_
          refine lv_bipush (v := 6) hx hb dX11_readsGoer_66 (by decide) ?_
          refine rij hf hk hw 2 rfl (j := 6) (vp_in_nI (n := 6) (by omega) (by omega)) (rfl) dX11_readsGoer_68 ?_
          refine lv_tope (y := nI qcnt) (rfl) ?_
          refine lv_imul hx hb dX11_readsGoer_69 ?_
          refine lv_tope (y := nI (4 * qcnt)) (pk_mul 4 _) ?_
          refine lv_iadd hx hb dX11_readsGoer_70 ?_
          refine lv_tope (y := nI (19 + 4 * qcnt)) (nI_add 19 _) ?_
          refine lv_istore (lv' := [(4, .int (nI (19 + 4 * qcnt))), (3, .int 50), (2, .int (rdN byt tpd (wdE byt tpd (wdE byt tpd x0)) 11)), (0, .ref oh), (1, .int kd)]) hx hb dX11_readsGoer_71 hl (by decide) rfl (fun ls hl => ?_)
          refine lv_aload_n hx hb dX11_readsGoer_73 rfl (lv_at hl 3 rfl) ?_
          refine rg hf hk hw hinX11 0 rfl rfl 3 (by decide) w_0 rfl dX11_readsGoer_74 ?_
          refine lv_iload hx hb dX11_readsGoer_77 (lv_at hl 0 rfl) ?_
          refine lv_iload_n hx hb dX11_readsGoer_79 rfl (lv_at hl 4 rfl) ?_
          refine rse hf hk hw 2 rfl (j := 19 + 4 * qcnt) (vp_in_nI (by omega) (by omega)) (nI_clamp (by omega)) (mU_kd) dX11_readsGoer_80 (W' := [cob oh 11 [.ref os, .ref ok, .ref ol, .ref ord, .int isk, .ref odd, .ref otp, .int (nI tpd), .ref olt, .int (nI (wdE byt tpd (wdE byt tpd (wdE byt tpd (wdE byt tpd x0))))), .int (nI (wdS byt tpd (wdE byt tpd (wdE byt tpd (wdE byt tpd x0))))), .int (tkF byt tpd (wdE byt tpd (wdE byt tpd (wdE byt tpd x0)))), .int u9_j0, .ref orw, .int (nI rmn), .ref oso, .ref osz, .ref oit, .ref oho, .ref ohe, .ref otr, .int (nI tcd), .int own_, .int opt], cin g os 51 (mR stp laws z cnt fogs arms kinds faiths places moved), cin g ord 51 (mR qstp qlaws qz qcnt qfogs qarms (upd qkinds qcnt kd) qfaiths qplaces qmoved), cin g otp 200 (ubT byt), cch g olt 120 mlet]) rfl (fun H locs hw => ?_)
          refine lv_aload_n hx hb dX11_readsGoer_81 rfl (lv_at hl 3 rfl) ?_
          refine rg hf hk hw hinX11 0 rfl rfl 3 (by decide) w_0 rfl dX11_readsGoer_82 ?_
          refine lv_iload hx hb dX11_readsGoer_85 (lv_at hl 0 rfl) ?_
          refine lv_iconst (v := 1) hx hb dX11_readsGoer_87 (by decide) ?_
          refine lv_iadd hx hb dX11_readsGoer_88 ?_
          refine lv_tope (y := nI (19 + 4 * qcnt + 1)) (nI_add _ 1) ?_
          refine lv_iload_n hx hb dX11_readsGoer_89 rfl (lv_at hl 1 rfl) ?_
          refine rse hf hk hw 2 rfl (j := 19 + 4 * qcnt + 1) (vp_in_nI (by omega) (by omega)) (nI_clamp (by omega)) (mU_fa) dX11_readsGoer_90 (W' := [cob oh 11 [.ref os, .ref ok, .ref ol, .ref ord, .int isk, .ref odd, .ref otp, .int (nI tpd), .ref olt, .int (nI (wdE byt tpd (wdE byt tpd (wdE byt tpd (wdE byt tpd x0))))), .int (nI (wdS byt tpd (wdE byt tpd (wdE byt tpd (wdE byt tpd x0))))), .int (tkF byt tpd (wdE byt tpd (wdE byt tpd (wdE byt tpd x0)))), .int u9_j0, .ref orw, .int (nI rmn), .ref oso, .ref osz, .ref oit, .ref oho, .ref ohe, .ref otr, .int (nI tcd), .int own_, .int opt], cin g os 51 (mR stp laws z cnt fogs arms kinds faiths places moved), cin g ord 51 (mR qstp qlaws qz qcnt qfogs qarms (upd qkinds qcnt kd) (upd qfaiths qcnt 50) qplaces qmoved), cin g otp 200 (ubT byt), cch g olt 120 mlet]) rfl (fun H locs hw => ?_)
          refine lv_aload_n hx hb dX11_readsGoer_91 rfl (lv_at hl 3 rfl) ?_
          refine rg hf hk hw hinX11 0 rfl rfl 3 (by decide) w_0 rfl dX11_readsGoer_92 ?_
          refine lv_iload hx hb dX11_readsGoer_95 (lv_at hl 0 rfl) ?_
          refine lv_iconst (v := 2) hx hb dX11_readsGoer_97 (by decide) ?_
          refine lv_iadd hx hb dX11_readsGoer_98 ?_
          refine lv_tope (y := nI (19 + 4 * qcnt + 2)) (nI_add _ 2) ?_
          refine lv_iload_n hx hb dX11_readsGoer_99 rfl (lv_at hl 2 rfl) ?_
          refine rse hf hk hw 2 rfl (j := 19 + 4 * qcnt + 2) (vp_in_nI (by omega) (by omega)) (nI_clamp (by omega)) (mU_pl) dX11_readsGoer_100 (W' := [cob oh 11 [.ref os, .ref ok, .ref ol, .ref ord, .int isk, .ref odd, .ref otp, .int (nI tpd), .ref olt, .int (nI (wdE byt tpd (wdE byt tpd (wdE byt tpd (wdE byt tpd x0))))), .int (nI (wdS byt tpd (wdE byt tpd (wdE byt tpd (wdE byt tpd x0))))), .int (tkF byt tpd (wdE byt tpd (wdE byt tpd (wdE byt tpd x0)))), .int u9_j0, .ref orw, .int (nI rmn), .ref oso, .ref osz, .ref oit, .ref oho, .ref ohe, .ref otr, .int (nI tcd), .int own_, .int opt], cin g os 51 (mR stp laws z cnt fogs arms kinds faiths places moved), cin g ord 51 (mR qstp qlaws qz qcnt qfogs qarms (upd qkinds qcnt kd) (upd qfaiths qcnt 50) (upd qplaces qcnt (rdN byt tpd (wdE byt tpd (wdE byt tpd x0)) 11)) qmoved), cin g otp 200 (ubT byt), cch g olt 120 mlet]) rfl (fun H locs hw => ?_)
          refine lv_aload_n hx hb dX11_readsGoer_101 rfl (lv_at hl 3 rfl) ?_
          refine rg hf hk hw hinX11 0 rfl rfl 3 (by decide) w_0 rfl dX11_readsGoer_102 ?_
          refine lv_bipush (v := 6) hx hb dX11_readsGoer_105 (by decide) ?_
          refine lv_dup2_11 hx hb dX11_readsGoer_107 rfl rfl ?_
          refine rij hf hk hw 2 rfl (j := 6) (vp_in_nI (n := 6) (by omega) (by omega)) (rfl) dX11_readsGoer_108 ?_
          refine lv_tope (y := nI qcnt) (rfl) ?_
          refine lv_iconst (v := 1) hx hb dX11_readsGoer_109 (by decide) ?_
          refine lv_iadd hx hb dX11_readsGoer_110 ?_
          refine lv_tope (y := nI (qcnt + 1)) (nI_1 _) ?_
          refine rse hf hk hw 2 rfl (j := 6) (vp_in_nI (n := 6) (by omega) (by omega)) (rfl) (mU_cnt) dX11_readsGoer_111 (W' := [cob oh 11 [.ref os, .ref ok, .ref ol, .ref ord, .int isk, .ref odd, .ref otp, .int (nI tpd), .ref olt, .int (nI (wdE byt tpd (wdE byt tpd (wdE byt tpd (wdE byt tpd x0))))), .int (nI (wdS byt tpd (wdE byt tpd (wdE byt tpd (wdE byt tpd x0))))), .int (tkF byt tpd (wdE byt tpd (wdE byt tpd (wdE byt tpd x0)))), .int u9_j0, .ref orw, .int (nI rmn), .ref oso, .ref osz, .ref oit, .ref oho, .ref ohe, .ref otr, .int (nI tcd), .int own_, .int opt], cin g os 51 (mR stp laws z cnt fogs arms kinds faiths places moved), cin g ord 51 (mR qstp qlaws qz (qcnt + 1) qfogs qarms (upd qkinds qcnt kd) (upd qfaiths qcnt 50) (upd qplaces qcnt (rdN byt tpd (wdE byt tpd (wdE byt tpd x0)) 11)) qmoved), cin g otp 200 (ubT byt), cch g olt 120 mlet]) rfl (fun H locs hw => ?_)
          refine lv_iload_n hx hb dX11_readsGoer_112 rfl (lv_at hl 2 rfl) ?_
          refine lv_if_lt (tgt := 124) hx hb dX11_readsGoer_113 (by decide) (fun q => absurd q (Int32.not_lt.mpr c_6)) (fun _ => ?_)
          refine lv_iload_n hx hb dX11_readsGoer_116 rfl (lv_at hl 1 rfl) ?_
          refine lv_if_lt (tgt := 124) hx hb dX11_readsGoer_117 (by decide) (fun q => absurd q (by decide)) (fun _ => ?_)
          refine lv_iconst (v := 1) hx hb dX11_readsGoer_120 (by decide) ?_
          refine lv_goto (tgt := 125) hx hb dX11_readsGoer_121 (by decide) ?_
          exact rE_z hf hr hlk hw (rfl) ⟨congrArg some (by simp only [rgF, if_pos hc8, if_neg c_3, if_pos c_6, if_pos c_8]), u9_j0, (mR qstp qlaws qz (qcnt + 1) qfogs qarms (upd qkinds qcnt kd) (upd qfaiths qcnt 50) (upd qplaces qcnt (rdN byt tpd (wdE byt tpd (wdE byt tpd x0)) 11)) qmoved), ⟨by simp only [f_X7_readGoer_x, if_pos hc8, if_neg c_3, if_pos c_6, if_pos c_8]; exact u9_s, fun _ => by simp only [rgV, if_pos c_8]⟩, by simp only [f_X7_readGoer_x, if_pos hc8, if_neg c_3, if_pos c_6, if_pos c_8]⟩ (show ([oh, os, ord, otp, olt] : List Nat) = [oh, os, ord, otp, olt] from rfl) dX11_readsGoer_125
        · refine mcVF hf hk hst hw (c_X11_takesY l g oh os ok ol ord odd otp olt orw oso osz oit oho ohe otr stp laws z cnt fogs arms kinds faiths places moved isk tpd u7_j0 rmn tcd own_ opt (mR qstp qlaws qz qcnt qfogs qarms qkinds qfaiths qplaces qmoved) byt (wdE byt tpd (wdE byt tpd (wdE byt tpd x0))) 14 (by omega) (by assumption) (by omega) (u7_s) ((tk_nm hby (w := 14) (by decide)).mpr c_8)) (cwV 1 hts gX11_readsGoer_X11_takes rfl rfl rfl hdV_X11_takes ⟨Nat.le_of_ble_eq_true rfl, Nat.le_of_ble_eq_true rfl⟩) 0 rfl rfl rfl hl.1 rfl (Nat.le_of_ble_eq_true rfl) dX11_readsGoer_46 ⟨Nat.zero_le _, Nat.zero_le _⟩ (fun rv ws2 hPo H locs hw => ?_)
          obtain ⟨rfl, u10_j0, u10_s, rfl⟩ := hPo
          refine lv_if_eq (tgt := 59) hx hb dX11_readsGoer_49 (by decide) (fun q => absurd q (by decide)) (fun _ => ?_)
          refine lv_aload_n hx hb dX11_readsGoer_52 rfl (lv_at hl 2 rfl) ?_
          refine lv_bipush (v := 99) hx hb dX11_readsGoer_53 (by decide) ?_
          by_cases c_11 : 0 ≤ (rdN byt tpd (wdE byt tpd (wdE byt tpd (wdE byt tpd (wdE byt tpd x0)))) 99)
          · refine mcVF hf hk hst hw (c_X11_takesNumberY l g oh os ok ol ord odd otp olt orw oso osz oit oho ohe otr stp laws z cnt fogs arms kinds faiths places moved isk tpd u10_j0 rmn tcd own_ opt (mR qstp qlaws qz qcnt qfogs qarms qkinds qfaiths qplaces qmoved) byt (wdE byt tpd (wdE byt tpd (wdE byt tpd (wdE byt tpd x0)))) 99 (by omega) (by assumption) (by omega) (u10_s) (c_11)) (cwV 1 hts gX11_readsGoer_X11_takesNumber rfl rfl rfl hdV_X11_takesNumber ⟨Nat.le_of_ble_eq_true rfl, Nat.le_of_ble_eq_true rfl⟩) 0 rfl rfl rfl hl.1 rfl (Nat.le_of_ble_eq_true rfl) dX11_readsGoer_55 ⟨Nat.zero_le _, Nat.zero_le _⟩ (fun rv ws2 hPo H locs hw => ?_)
            obtain ⟨rfl, u12_j0, u12_s, rfl⟩ := hPo
            refine lv_istore_n (lv' := [(3, .int (rdN byt tpd (wdE byt tpd (wdE byt tpd (wdE byt tpd (wdE byt tpd x0)))) 99)), (2, .int (rdN byt tpd (wdE byt tpd (wdE byt tpd x0)) 11)), (0, .ref oh), (1, .int kd)]) hx hb dX11_readsGoer_58 rfl hl (by decide) rfl (fun ls hl => ?_)
            refine lv_bipush (v := 19) hx hb dX11_readsGoer_59 (by decide) ?_
            refine lv_iconst (v := 4) hx hb dX11_readsGoer_61 (by decide) ?_
            refine lv_aload_n hx hb dX11_readsGoer_62 rfl (lv_at hl 2 rfl) ?_
            refine rg hf hk hw hinX11 0 rfl rfl 3 (by decide) w_0 rfl dX11_readsGoer_63 ?_
            refine lv_bipush (v := 6) hx hb dX11_readsGoer_66 (by decide) ?_
            refine rij hf hk hw 2 rfl (j := 6) (vp_in_nI (n := 6) (by omega) (by omega)) (rfl) dX11_readsGoer_68 ?_
            refine lv_tope (y := nI qcnt) (rfl) ?_
            refine lv_imul hx hb dX11_readsGoer_69 ?_
            refine lv_tope (y := nI (4 * qcnt)) (pk_mul 4 _) ?_
            refine lv_iadd hx hb dX11_readsGoer_70 ?_
            refine lv_tope (y := nI (19 + 4 * qcnt)) (nI_add 19 _) ?_
            refine lv_istore (lv' := [(4, .int (nI (19 + 4 * qcnt))), (3, .int (rdN byt tpd (wdE byt tpd (wdE byt tpd (wdE byt tpd (wdE byt tpd x0)))) 99)), (2, .int (rdN byt tpd (wdE byt tpd (wdE byt tpd x0)) 11)), (0, .ref oh), (1, .int kd)]) hx hb dX11_readsGoer_71 hl (by decide) rfl (fun ls hl => ?_)
            refine lv_aload_n hx hb dX11_readsGoer_73 rfl (lv_at hl 3 rfl) ?_
            refine rg hf hk hw hinX11 0 rfl rfl 3 (by decide) w_0 rfl dX11_readsGoer_74 ?_
            refine lv_iload hx hb dX11_readsGoer_77 (lv_at hl 0 rfl) ?_
            refine lv_iload_n hx hb dX11_readsGoer_79 rfl (lv_at hl 4 rfl) ?_
            refine rse hf hk hw 2 rfl (j := 19 + 4 * qcnt) (vp_in_nI (by omega) (by omega)) (nI_clamp (by omega)) (mU_kd) dX11_readsGoer_80 (W' := [cob oh 11 [.ref os, .ref ok, .ref ol, .ref ord, .int isk, .ref odd, .ref otp, .int (nI tpd), .ref olt, .int (nI (wdE byt tpd (wdE byt tpd (wdE byt tpd (wdE byt tpd (wdE byt tpd (wdE byt tpd x0))))))), .int (nI (wdS byt tpd (wdE byt tpd (wdE byt tpd (wdE byt tpd (wdE byt tpd (wdE byt tpd x0))))))), .int (tkF byt tpd (wdE byt tpd (wdE byt tpd (wdE byt tpd (wdE byt tpd (wdE byt tpd x0)))))), .int u12_j0, .ref orw, .int (nI rmn), .ref oso, .ref osz, .ref oit, .ref oho, .ref ohe, .ref otr, .int (nI tcd), .int own_, .int opt], cin g os 51 (mR stp laws z cnt fogs arms kinds faiths places moved), cin g ord 51 (mR qstp qlaws qz qcnt qfogs qarms (upd qkinds qcnt kd) qfaiths qplaces qmoved), cin g otp 200 (ubT byt), cch g olt 120 mlet]) rfl (fun H locs hw => ?_)
            refine lv_aload_n hx hb dX11_readsGoer_81 rfl (lv_at hl 3 rfl) ?_
            refine rg hf hk hw hinX11 0 rfl rfl 3 (by decide) w_0 rfl dX11_readsGoer_82 ?_
            refine lv_iload hx hb dX11_readsGoer_85 (lv_at hl 0 rfl) ?_
            refine lv_iconst (v := 1) hx hb dX11_readsGoer_87 (by decide) ?_
            refine lv_iadd hx hb dX11_readsGoer_88 ?_
            refine lv_tope (y := nI (19 + 4 * qcnt + 1)) (nI_add _ 1) ?_
            refine lv_iload_n hx hb dX11_readsGoer_89 rfl (lv_at hl 1 rfl) ?_
            refine rse hf hk hw 2 rfl (j := 19 + 4 * qcnt + 1) (vp_in_nI (by omega) (by omega)) (nI_clamp (by omega)) (mU_fa) dX11_readsGoer_90 (W' := [cob oh 11 [.ref os, .ref ok, .ref ol, .ref ord, .int isk, .ref odd, .ref otp, .int (nI tpd), .ref olt, .int (nI (wdE byt tpd (wdE byt tpd (wdE byt tpd (wdE byt tpd (wdE byt tpd (wdE byt tpd x0))))))), .int (nI (wdS byt tpd (wdE byt tpd (wdE byt tpd (wdE byt tpd (wdE byt tpd (wdE byt tpd x0))))))), .int (tkF byt tpd (wdE byt tpd (wdE byt tpd (wdE byt tpd (wdE byt tpd (wdE byt tpd x0)))))), .int u12_j0, .ref orw, .int (nI rmn), .ref oso, .ref osz, .ref oit, .ref oho, .ref ohe, .ref otr, .int (nI tcd), .int own_, .int opt], cin g os 51 (mR stp laws z cnt fogs arms kinds faiths places moved), cin g ord 51 (mR qstp qlaws qz qcnt qfogs qarms (upd qkinds qcnt kd) (upd qfaiths qcnt (rdN byt tpd (wdE byt tpd (wdE byt tpd (wdE byt tpd (wdE byt tpd x0)))) 99)) qplaces qmoved), cin g otp 200 (ubT byt), cch g olt 120 mlet]) rfl (fun H locs hw => ?_)
            refine lv_aload_n hx hb dX11_readsGoer_91 rfl (lv_at hl 3 rfl) ?_
            refine rg hf hk hw hinX11 0 rfl rfl 3 (by decide) w_0 rfl dX11_readsGoer_92 ?_
            refine lv_iload hx hb dX11_readsGoer_95 (lv_at hl 0 rfl) ?_
            refine lv_iconst (v := 2) hx hb dX11_readsGoer_97 (by decide) ?_
            refine lv_iadd hx hb dX11_readsGoer_98 ?_
            refine lv_tope (y := nI (19 + 4 * qcnt + 2)) (nI_add _ 2) ?_
            refine lv_iload_n hx hb dX11_readsGoer_99 rfl (lv_at hl 2 rfl) ?_
            refine rse hf hk hw 2 rfl (j := 19 + 4 * qcnt + 2) (vp_in_nI (by omega) (by omega)) (nI_clamp (by omega)) (mU_pl) dX11_readsGoer_100 (W' := [cob oh 11 [.ref os, .ref ok, .ref ol, .ref ord, .int isk, .ref odd, .ref otp, .int (nI tpd), .ref olt, .int (nI (wdE byt tpd (wdE byt tpd (wdE byt tpd (wdE byt tpd (wdE byt tpd (wdE byt tpd x0))))))), .int (nI (wdS byt tpd (wdE byt tpd (wdE byt tpd (wdE byt tpd (wdE byt tpd (wdE byt tpd x0))))))), .int (tkF byt tpd (wdE byt tpd (wdE byt tpd (wdE byt tpd (wdE byt tpd (wdE byt tpd x0)))))), .int u12_j0, .ref orw, .int (nI rmn), .ref oso, .ref osz, .ref oit, .ref oho, .ref ohe, .ref otr, .int (nI tcd), .int own_, .int opt], cin g os 51 (mR stp laws z cnt fogs arms kinds faiths places moved), cin g ord 51 (mR qstp qlaws qz qcnt qfogs qarms (upd qkinds qcnt kd) (upd qfaiths qcnt (rdN byt tpd (wdE byt tpd (wdE byt tpd (wdE byt tpd (wdE byt tpd x0)))) 99)) (upd qplaces qcnt (rdN byt tpd (wdE byt tpd (wdE byt tpd x0)) 11)) qmoved), cin g otp 200 (ubT byt), cch g olt 120 mlet]) rfl (fun H locs hw => ?_)
            refine lv_aload_n hx hb dX11_readsGoer_101 rfl (lv_at hl 3 rfl) ?_
            refine rg hf hk hw hinX11 0 rfl rfl 3 (by decide) w_0 rfl dX11_readsGoer_102 ?_
            refine lv_bipush (v := 6) hx hb dX11_readsGoer_105 (by decide) ?_
            refine lv_dup2_11 hx hb dX11_readsGoer_107 rfl rfl ?_
            refine rij hf hk hw 2 rfl (j := 6) (vp_in_nI (n := 6) (by omega) (by omega)) (rfl) dX11_readsGoer_108 ?_
            refine lv_tope (y := nI qcnt) (rfl) ?_
            refine lv_iconst (v := 1) hx hb dX11_readsGoer_109 (by decide) ?_
            refine lv_iadd hx hb dX11_readsGoer_110 ?_
            refine lv_tope (y := nI (qcnt + 1)) (nI_1 _) ?_
            refine rse hf hk hw 2 rfl (j := 6) (vp_in_nI (n := 6) (by omega) (by omega)) (rfl) (mU_cnt) dX11_readsGoer_111 (W' := [cob oh 11 [.ref os, .ref ok, .ref ol, .ref ord, .int isk, .ref odd, .ref otp, .int (nI tpd), .ref olt, .int (nI (wdE byt tpd (wdE byt tpd (wdE byt tpd (wdE byt tpd (wdE byt tpd (wdE byt tpd x0))))))), .int (nI (wdS byt tpd (wdE byt tpd (wdE byt tpd (wdE byt tpd (wdE byt tpd (wdE byt tpd x0))))))), .int (tkF byt tpd (wdE byt tpd (wdE byt tpd (wdE byt tpd (wdE byt tpd (wdE byt tpd x0)))))), .int u12_j0, .ref orw, .int (nI rmn), .ref oso, .ref osz, .ref oit, .ref oho, .ref ohe, .ref otr, .int (nI tcd), .int own_, .int opt], cin g os 51 (mR stp laws z cnt fogs arms kinds faiths places moved), cin g ord 51 (mR qstp qlaws qz (qcnt + 1) qfogs qarms (upd qkinds qcnt kd) (upd qfaiths qcnt (rdN byt tpd (wdE byt tpd (wdE byt tpd (wdE byt tpd (wdE byt tpd x0)))) 99)) (upd qplaces qcnt (rdN byt tpd (wdE byt tpd (wdE byt tpd x0)) 11)) qmoved), cin g otp 200 (ubT byt), cch g olt 120 mlet]) rfl (fun H locs hw => ?_)
            refine lv_iload_n hx hb dX11_readsGoer_112 rfl (lv_at hl 2 rfl) ?_
            refine lv_if_lt (tgt := 124) hx hb dX11_readsGoer_113 (by decide) (fun q => absurd q (Int32.not_lt.mpr c_6)) (fun _ => ?_)
            refine lv_iload_n hx hb dX11_readsGoer_116 rfl (lv_at hl 1 rfl) ?_
            refine lv_if_lt (tgt := 124) hx hb dX11_readsGoer_117 (by decide) (fun q => absurd q (Int32.not_lt.mpr c_11)) (fun _ => ?_)
            refine lv_iconst (v := 1) hx hb dX11_readsGoer_120 (by decide) ?_
            refine lv_goto (tgt := 125) hx hb dX11_readsGoer_121 (by decide) ?_
            exact rE_z hf hr hlk hw (rfl) ⟨congrArg some (by simp only [rgF, if_pos hc8, if_neg c_3, if_pos c_6, if_neg c_8, if_pos c_11]), u12_j0, (mR qstp qlaws qz (qcnt + 1) qfogs qarms (upd qkinds qcnt kd) (upd qfaiths qcnt (rdN byt tpd (wdE byt tpd (wdE byt tpd (wdE byt tpd (wdE byt tpd x0)))) 99)) (upd qplaces qcnt (rdN byt tpd (wdE byt tpd (wdE byt tpd x0)) 11)) qmoved), ⟨by simp only [f_X7_readGoer_x, if_pos hc8, if_neg c_3, if_pos c_6, if_neg c_8, if_pos c_11]; exact u12_s, fun _ => by simp only [rgV, if_neg c_8]⟩, by simp only [f_X7_readGoer_x, if_pos hc8, if_neg c_3, if_pos c_6, if_neg c_8, if_pos c_11]⟩ (show ([oh, os, ord, otp, olt] : List Nat) = [oh, os, ord, otp, olt] from rfl) dX11_readsGoer_125
          · refine mcVF hf hk hst hw (c_X11_takesNumberN l g oh os ok ol ord odd otp olt orw oso osz oit oho ohe otr stp laws z cnt fogs arms kinds faiths places moved isk tpd u10_j0 rmn tcd own_ opt (mR qstp qlaws qz qcnt qfogs qarms qkinds qfaiths qplaces qmoved) byt (wdE byt tpd (wdE byt tpd (wdE byt tpd (wdE byt tpd x0)))) 99 (by omega) (by assumption) (by omega) (u10_s) (c_11)) (cwV 1 hts gX11_readsGoer_X11_takesNumber rfl rfl rfl hdV_X11_takesNumber ⟨Nat.le_of_ble_eq_true rfl, Nat.le_of_ble_eq_true rfl⟩) 0 rfl rfl rfl hl.1 rfl (Nat.le_of_ble_eq_true rfl) dX11_readsGoer_55 ⟨Nat.zero_le _, Nat.zero_le _⟩ (fun rv ws2 hPo H locs hw => ?_)
            obtain ⟨rfl, u13_j0, u13_s, rfl⟩ := hPo
            refine lv_istore_n (lv' := [(3, .int (rdN byt tpd (wdE byt tpd (wdE byt tpd (wdE byt tpd (wdE byt tpd x0)))) 99)), (2, .int (rdN byt tpd (wdE byt tpd (wdE byt tpd x0)) 11)), (0, .ref oh), (1, .int kd)]) hx hb dX11_readsGoer_58 rfl hl (by decide) rfl (fun ls hl => ?_)
            refine lv_bipush (v := 19) hx hb dX11_readsGoer_59 (by decide) ?_
            refine lv_iconst (v := 4) hx hb dX11_readsGoer_61 (by decide) ?_
            refine lv_aload_n hx hb dX11_readsGoer_62 rfl (lv_at hl 2 rfl) ?_
            refine rg hf hk hw hinX11 0 rfl rfl 3 (by decide) w_0 rfl dX11_readsGoer_63 ?_
            refine lv_bipush (v := 6) hx hb dX11_readsGoer_66 (by decide) ?_
            refine rij hf hk hw 2 rfl (j := 6) (vp_in_nI (n := 6) (by omega) (by omega)) (rfl) dX11_readsGoer_68 ?_
            refine lv_tope (y := nI qcnt) (rfl) ?_
            refine lv_imul hx hb dX11_readsGoer_69 ?_
            refine lv_tope (y := nI (4 * qcnt)) (pk_mul 4 _) ?_
            refine lv_iadd hx hb dX11_readsGoer_70 ?_
            refine lv_tope (y := nI (19 + 4 * qcnt)) (nI_add 19 _) ?_
            refine lv_istore (lv' := [(4, .int (nI (19 + 4 * qcnt))), (3, .int (rdN byt tpd (wdE byt tpd (wdE byt tpd (wdE byt tpd (wdE byt tpd x0)))) 99)), (2, .int (rdN byt tpd (wdE byt tpd (wdE byt tpd x0)) 11)), (0, .ref oh), (1, .int kd)]) hx hb dX11_readsGoer_71 hl (by decide) rfl (fun ls hl => ?_)
            refine lv_aload_n hx hb dX11_readsGoer_73 rfl (lv_at hl 3 rfl) ?_
            refine rg hf hk hw hinX11 0 rfl rfl 3 (by decide) w_0 rfl dX11_readsGoer_74 ?_
            refine lv_iload hx hb dX11_readsGoer_77 (lv_at hl 0 rfl) ?_
            refine lv_iload_n hx hb dX11_readsGoer_79 rfl (lv_at hl 4 rfl) ?_
            refine rse hf hk hw 2 rfl (j := 19 + 4 * qcnt) (vp_in_nI (by omega) (by omega)) (nI_clamp (by omega)) (mU_kd) dX11_readsGoer_80 (W' := [cob oh 11 [.ref os, .ref ok, .ref ol, .ref ord, .int isk, .ref odd, .ref otp, .int (nI tpd), .ref olt, .int (nI (wdE byt tpd (wdE byt tpd (wdE byt tpd (wdE byt tpd (wdE byt tpd x0)))))), .int (nI (wdS byt tpd (wdE byt tpd (wdE byt tpd (wdE byt tpd (wdE byt tpd x0)))))), .int (tkF byt tpd (wdE byt tpd (wdE byt tpd (wdE byt tpd (wdE byt tpd x0))))), .int u13_j0, .ref orw, .int (nI rmn), .ref oso, .ref osz, .ref oit, .ref oho, .ref ohe, .ref otr, .int (nI tcd), .int own_, .int opt], cin g os 51 (mR stp laws z cnt fogs arms kinds faiths places moved), cin g ord 51 (mR qstp qlaws qz qcnt qfogs qarms (upd qkinds qcnt kd) qfaiths qplaces qmoved), cin g otp 200 (ubT byt), cch g olt 120 mlet]) rfl (fun H locs hw => ?_)
            refine lv_aload_n hx hb dX11_readsGoer_81 rfl (lv_at hl 3 rfl) ?_
            refine rg hf hk hw hinX11 0 rfl rfl 3 (by decide) w_0 rfl dX11_readsGoer_82 ?_
            refine lv_iload hx hb dX11_readsGoer_85 (lv_at hl 0 rfl) ?_
            refine lv_iconst (v := 1) hx hb dX11_readsGoer_87 (by decide) ?_
            refine lv_iadd hx hb dX11_readsGoer_88 ?_
            refine lv_tope (y := nI (19 + 4 * qcnt + 1)) (nI_add _ 1) ?_
            refine lv_iload_n hx hb dX11_readsGoer_89 rfl (lv_at hl 1 rfl) ?_
            refine rse hf hk hw 2 rfl (j := 19 + 4 * qcnt + 1) (vp_in_nI (by omega) (by omega)) (nI_clamp (by omega)) (mU_fa) dX11_readsGoer_90 (W' := [cob oh 11 [.ref os, .ref ok, .ref ol, .ref ord, .int isk, .ref odd, .ref otp, .int (nI tpd), .ref olt, .int (nI (wdE byt tpd (wdE byt tpd (wdE byt tpd (wdE byt tpd (wdE byt tpd x0)))))), .int (nI (wdS byt tpd (wdE byt tpd (wdE byt tpd (wdE byt tpd (wdE byt tpd x0)))))), .int (tkF byt tpd (wdE byt tpd (wdE byt tpd (wdE byt tpd (wdE byt tpd x0))))), .int u13_j0, .ref orw, .int (nI rmn), .ref oso, .ref osz, .ref oit, .ref oho, .ref ohe, .ref otr, .int (nI tcd), .int own_, .int opt], cin g os 51 (mR stp laws z cnt fogs arms kinds faiths places moved), cin g ord 51 (mR qstp qlaws qz qcnt qfogs qarms (upd qkinds qcnt kd) (upd qfaiths qcnt (rdN byt tpd (wdE byt tpd (wdE byt tpd (wdE byt tpd (wdE byt tpd x0)))) 99)) qplaces qmoved), cin g otp 200 (ubT byt), cch g olt 120 mlet]) rfl (fun H locs hw => ?_)
            refine lv_aload_n hx hb dX11_readsGoer_91 rfl (lv_at hl 3 rfl) ?_
            refine rg hf hk hw hinX11 0 rfl rfl 3 (by decide) w_0 rfl dX11_readsGoer_92 ?_
            refine lv_iload hx hb dX11_readsGoer_95 (lv_at hl 0 rfl) ?_
            refine lv_iconst (v := 2) hx hb dX11_readsGoer_97 (by decide) ?_
            refine lv_iadd hx hb dX11_readsGoer_98 ?_
            refine lv_tope (y := nI (19 + 4 * qcnt + 2)) (nI_add _ 2) ?_
            refine lv_iload_n hx hb dX11_readsGoer_99 rfl (lv_at hl 2 rfl) ?_
            refine rse hf hk hw 2 rfl (j := 19 + 4 * qcnt + 2) (vp_in_nI (by omega) (by omega)) (nI_clamp (by omega)) (mU_pl) dX11_readsGoer_100 (W' := [cob oh 11 [.ref os, .ref ok, .ref ol, .ref ord, .int isk, .ref odd, .ref otp, .int (nI tpd), .ref olt, .int (nI (wdE byt tpd (wdE byt tpd (wdE byt tpd (wdE byt tpd (wdE byt tpd x0)))))), .int (nI (wdS byt tpd (wdE byt tpd (wdE byt tpd (wdE byt tpd (wdE byt tpd x0)))))), .int (tkF byt tpd (wdE byt tpd (wdE byt tpd (wdE byt tpd (wdE byt tpd x0))))), .int u13_j0, .ref orw, .int (nI rmn), .ref oso, .ref osz, .ref oit, .ref oho, .ref ohe, .ref otr, .int (nI tcd), .int own_, .int opt], cin g os 51 (mR stp laws z cnt fogs arms kinds faiths places moved), cin g ord 51 (mR qstp qlaws qz qcnt qfogs qarms (upd qkinds qcnt kd) (upd qfaiths qcnt (rdN byt tpd (wdE byt tpd (wdE byt tpd (wdE byt tpd (wdE byt tpd x0)))) 99)) (upd qplaces qcnt (rdN byt tpd (wdE byt tpd (wdE byt tpd x0)) 11)) qmoved), cin g otp 200 (ubT byt), cch g olt 120 mlet]) rfl (fun H locs hw => ?_)
            refine lv_aload_n hx hb dX11_readsGoer_101 rfl (lv_at hl 3 rfl) ?_
            refine rg hf hk hw hinX11 0 rfl rfl 3 (by decide) w_0 rfl dX11_readsGoer_102 ?_
            refine lv_bipush (v := 6) hx hb dX11_readsGoer_105 (by decide) ?_
            refine lv_dup2_11 hx hb dX11_readsGoer_107 rfl rfl ?_
            refine rij hf hk hw 2 rfl (j := 6) (vp_in_nI (n := 6) (by omega) (by omega)) (rfl) dX11_readsGoer_108 ?_
            refine lv_tope (y := nI qcnt) (rfl) ?_
            refine lv_iconst (v := 1) hx hb dX11_readsGoer_109 (by decide) ?_
            refine lv_iadd hx hb dX11_readsGoer_110 ?_
            refine lv_tope (y := nI (qcnt + 1)) (nI_1 _) ?_
            refine rse hf hk hw 2 rfl (j := 6) (vp_in_nI (n := 6) (by omega) (by omega)) (rfl) (mU_cnt) dX11_readsGoer_111 (W' := [cob oh 11 [.ref os, .ref ok, .ref ol, .ref ord, .int isk, .ref odd, .ref otp, .int (nI tpd), .ref olt, .int (nI (wdE byt tpd (wdE byt tpd (wdE byt tpd (wdE byt tpd (wdE byt tpd x0)))))), .int (nI (wdS byt tpd (wdE byt tpd (wdE byt tpd (wdE byt tpd (wdE byt tpd x0)))))), .int (tkF byt tpd (wdE byt tpd (wdE byt tpd (wdE byt tpd (wdE byt tpd x0))))), .int u13_j0, .ref orw, .int (nI rmn), .ref oso, .ref osz, .ref oit, .ref oho, .ref ohe, .ref otr, .int (nI tcd), .int own_, .int opt], cin g os 51 (mR stp laws z cnt fogs arms kinds faiths places moved), cin g ord 51 (mR qstp qlaws qz (qcnt + 1) qfogs qarms (upd qkinds qcnt kd) (upd qfaiths qcnt (rdN byt tpd (wdE byt tpd (wdE byt tpd (wdE byt tpd (wdE byt tpd x0)))) 99)) (upd qplaces qcnt (rdN byt tpd (wdE byt tpd (wdE byt tpd x0)) 11)) qmoved), cin g otp 200 (ubT byt), cch g olt 120 mlet]) rfl (fun H locs hw => ?_)
            refine lv_iload_n hx hb dX11_readsGoer_112 rfl (lv_at hl 2 rfl) ?_
            refine lv_if_lt (tgt := 124) hx hb dX11_readsGoer_113 (by decide) (fun q => absurd q (Int32.not_lt.mpr c_6)) (fun _ => ?_)
            refine lv_iload_n hx hb dX11_readsGoer_116 rfl (lv_at hl 1 rfl) ?_
            refine lv_if_lt (tgt := 124) hx hb dX11_readsGoer_117 (by decide) (fun _ => ?_) (fun q => absurd (Int32.not_le.mp c_11) q)
            refine lv_iconst (v := 0) hx hb dX11_readsGoer_124 (by decide) ?_
            exact rE_z hf hr hlk hw (rfl) ⟨congrArg some (by simp only [rgF, if_pos hc8, if_neg c_3, if_pos c_6, if_neg c_8, if_neg c_11]), u13_j0, (mR qstp qlaws qz (qcnt + 1) qfogs qarms (upd qkinds qcnt kd) (upd qfaiths qcnt (rdN byt tpd (wdE byt tpd (wdE byt tpd (wdE byt tpd (wdE byt tpd x0)))) 99)) (upd qplaces qcnt (rdN byt tpd (wdE byt tpd (wdE byt tpd x0)) 11)) qmoved), ⟨by simp only [f_X7_readGoer_x, if_pos hc8, if_neg c_3, if_pos c_6, if_neg c_8, if_neg c_11]; exact u13_s, fun h => absurd (show (rgF byt tpd x0 qcnt) = 0 by simp only [rgF, if_pos hc8, if_neg c_3, if_pos c_6, if_neg c_8, if_neg c_11]) h⟩, by simp only [f_X7_readGoer_x, if_pos hc8, if_neg c_3, if_pos c_6, if_neg c_8, if_neg c_11]⟩ (show ([oh, os, ord, otp, olt] : List Nat) = [oh, os, ord, otp, olt] from rfl) dX11_readsGoer_125
      · refine mcVF hf hk hst hw (c_X11_takesNumberN l g oh os ok ol ord odd otp olt orw oso osz oit oho ohe otr stp laws z cnt fogs arms kinds faiths places moved isk tpd u5_j0 rmn tcd own_ opt (mR qstp qlaws qz qcnt qfogs qarms qkinds qfaiths qplaces qmoved) byt (wdE byt tpd (wdE byt tpd x0)) 11 (by omega) (by assumption) (by omega) (u5_s) (c_6)) (cwV 1 hts gX11_readsGoer_X11_takesNumber rfl rfl rfl hdV_X11_takesNumber ⟨Nat.le_of_ble_eq_true rfl, Nat.le_of_ble_eq_true rfl⟩) 0 rfl rfl rfl hl.1 rfl (Nat.le_of_ble_eq_true rfl) dX11_readsGoer_32 ⟨Nat.zero_le _, Nat.zero_le _⟩ (fun rv ws2 hPo H locs hw => ?_)
        obtain ⟨rfl, u14_j0, u14_s, rfl⟩ := hPo
        refine lv_istore_n (lv' := [(2, .int (rdN byt tpd (wdE byt tpd (wdE byt tpd x0)) 11)), (0, .ref oh), (1, .int kd)]) hx hb dX11_readsGoer_35 rfl hl (by decide) rfl (fun ls hl => ?_)
        refine lv_bipush (v := 50) hx hb dX11_readsGoer_36 (by decide) ?_
        refine lv_istore_n (lv' := [(3, .int 50), (2, .int (rdN byt tpd (wdE byt tpd (wdE byt tpd x0)) 11)), (0, .ref oh), (1, .int kd)]) hx hb dX11_readsGoer_38 rfl hl (by decide) rfl (fun ls hl => ?_)
        refine lv_iload_n hx hb dX11_readsGoer_39 rfl (lv_at hl 1 rfl) ?_
        refine lv_if_lt (tgt := 59) hx hb dX11_readsGoer_40 (by decide) (fun _ => ?_) (fun q => absurd (Int32.not_le.mp c_6) q)
        refine lv_bipush (v := 19) hx hb dX11_readsGoer_59 (by decide) ?_
        refine lv_iconst (v := 4) hx hb dX11_readsGoer_61 (by decide) ?_
        refine lv_aload_n hx hb dX11_readsGoer_62 rfl (lv_at hl 2 rfl) ?_
        refine rg hf hk hw hinX11 0 rfl rfl 3 (by decide) w_0 rfl dX11_readsGoer_63 ?_
        refine lv_bipush (v := 6) hx hb dX11_readsGoer_66 (by decide) ?_
        refine rij hf hk hw 2 rfl (j := 6) (vp_in_nI (n := 6) (by omega) (by omega)) (rfl) dX11_readsGoer_68 ?_
        refine lv_tope (y := nI qcnt) (rfl) ?_
        refine lv_imul hx hb dX11_readsGoer_69 ?_
        refine lv_tope (y := nI (4 * qcnt)) (pk_mul 4 _) ?_
        refine lv_iadd hx hb dX11_readsGoer_70 ?_
        refine lv_tope (y := nI (19 + 4 * qcnt)) (nI_add 19 _) ?_
        refine lv_istore (lv' := [(4, .int (nI (19 + 4 * qcnt))), (3, .int 50), (2, .int (rdN byt tpd (wdE byt tpd (wdE byt tpd x0)) 11)), (0, .ref oh), (1, .int kd)]) hx hb dX11_readsGoer_71 hl (by decide) rfl (fun ls hl => ?_)
        refine lv_aload_n hx hb dX11_readsGoer_73 rfl (lv_at hl 3 rfl) ?_
        refine rg hf hk hw hinX11 0 rfl rfl 3 (by decide) w_0 rfl dX11_readsGoer_74 ?_
        refine lv_iload hx hb dX11_readsGoer_77 (lv_at hl 0 rfl) ?_
        refine lv_iload_n hx hb dX11_readsGoer_79 rfl (lv_at hl 4 rfl) ?_
        refine rse hf hk hw 2 rfl (j := 19 + 4 * qcnt) (vp_in_nI (by omega) (by omega)) (nI_clamp (by omega)) (mU_kd) dX11_readsGoer_80 (W' := [cob oh 11 [.ref os, .ref ok, .ref ol, .ref ord, .int isk, .ref odd, .ref otp, .int (nI tpd), .ref olt, .int (nI (wdE byt tpd (wdE byt tpd (wdE byt tpd x0)))), .int (nI (wdS byt tpd (wdE byt tpd (wdE byt tpd x0)))), .int (tkF byt tpd (wdE byt tpd (wdE byt tpd x0))), .int u14_j0, .ref orw, .int (nI rmn), .ref oso, .ref osz, .ref oit, .ref oho, .ref ohe, .ref otr, .int (nI tcd), .int own_, .int opt], cin g os 51 (mR stp laws z cnt fogs arms kinds faiths places moved), cin g ord 51 (mR qstp qlaws qz qcnt qfogs qarms (upd qkinds qcnt kd) qfaiths qplaces qmoved), cin g otp 200 (ubT byt), cch g olt 120 mlet]) rfl (fun H locs hw => ?_)
        refine lv_aload_n hx hb dX11_readsGoer_81 rfl (lv_at hl 3 rfl) ?_
        refine rg hf hk hw hinX11 0 rfl rfl 3 (by decide) w_0 rfl dX11_readsGoer_82 ?_
        refine lv_iload hx hb dX11_readsGoer_85 (lv_at hl 0 rfl) ?_
        refine lv_iconst (v := 1) hx hb dX11_readsGoer_87 (by decide) ?_
        refine lv_iadd hx hb dX11_readsGoer_88 ?_
        refine lv_tope (y := nI (19 + 4 * qcnt + 1)) (nI_add _ 1) ?_
        refine lv_iload_n hx hb dX11_readsGoer_89 rfl (lv_at hl 1 rfl) ?_
        refine rse hf hk hw 2 rfl (j := 19 + 4 * qcnt + 1) (vp_in_nI (by omega) (by omega)) (nI_clamp (by omega)) (mU_fa) dX11_readsGoer_90 (W' := [cob oh 11 [.ref os, .ref ok, .ref ol, .ref ord, .int isk, .ref odd, .ref otp, .int (nI tpd), .ref olt, .int (nI (wdE byt tpd (wdE byt tpd (wdE byt tpd x0)))), .int (nI (wdS byt tpd (wdE byt tpd (wdE byt tpd x0)))), .int (tkF byt tpd (wdE byt tpd (wdE byt tpd x0))), .int u14_j0, .ref orw, .int (nI rmn), .ref oso, .ref osz, .ref oit, .ref oho, .ref ohe, .ref otr, .int (nI tcd), .int own_, .int opt], cin g os 51 (mR stp laws z cnt fogs arms kinds faiths places moved), cin g ord 51 (mR qstp qlaws qz qcnt qfogs qarms (upd qkinds qcnt kd) (upd qfaiths qcnt 50) qplaces qmoved), cin g otp 200 (ubT byt), cch g olt 120 mlet]) rfl (fun H locs hw => ?_)
        refine lv_aload_n hx hb dX11_readsGoer_91 rfl (lv_at hl 3 rfl) ?_
        refine rg hf hk hw hinX11 0 rfl rfl 3 (by decide) w_0 rfl dX11_readsGoer_92 ?_
        refine lv_iload hx hb dX11_readsGoer_95 (lv_at hl 0 rfl) ?_
        refine lv_iconst (v := 2) hx hb dX11_readsGoer_97 (by decide) ?_
        refine lv_iadd hx hb dX11_readsGoer_98 ?_
        refine lv_tope (y := nI (19 + 4 * qcnt + 2)) (nI_add _ 2) ?_
        refine lv_iload_n hx hb dX11_readsGoer_99 rfl (lv_at hl 2 rfl) ?_
        refine rse hf hk hw 2 rfl (j := 19 + 4 * qcnt + 2) (vp_in_nI (by omega) (by omega)) (nI_clamp (by omega)) (mU_pl) dX11_readsGoer_100 (W' := [cob oh 11 [.ref os, .ref ok, .ref ol, .ref ord, .int isk, .ref odd, .ref otp, .int (nI tpd), .ref olt, .int (nI (wdE byt tpd (wdE byt tpd (wdE byt tpd x0)))), .int (nI (wdS byt tpd (wdE byt tpd (wdE byt tpd x0)))), .int (tkF byt tpd (wdE byt tpd (wdE byt tpd x0))), .int u14_j0, .ref orw, .int (nI rmn), .ref oso, .ref osz, .ref oit, .ref oho, .ref ohe, .ref otr, .int (nI tcd), .int own_, .int opt], cin g os 51 (mR stp laws z cnt fogs arms kinds faiths places moved), cin g ord 51 (mR qstp qlaws qz qcnt qfogs qarms (upd qkinds qcnt kd) (upd qfaiths qcnt 50) (upd qplaces qcnt (rdN byt tpd (wdE byt tpd (wdE byt tpd x0)) 11)) qmoved), cin g otp 200 (ubT byt), cch g olt 120 mlet]) rfl (fun H locs hw => ?_)
        refine lv_aload_n hx hb dX11_readsGoer_101 rfl (lv_at hl 3 rfl) ?_
        refine rg hf hk hw hinX11 0 rfl rfl 3 (by decide) w_0 rfl dX11_readsGoer_102 ?_
        refine lv_bipush (v := 6) hx hb dX11_readsGoer_105 (by decide) ?_
        refine lv_dup2_11 hx hb dX11_readsGoer_107 rfl rfl ?_
        refine rij hf hk hw 2 rfl (j := 6) (vp_in_nI (n := 6) (by omega) (by omega)) (rfl) dX11_readsGoer_108 ?_
        refine lv_tope (y := nI qcnt) (rfl) ?_
        refine lv_iconst (v := 1) hx hb dX11_readsGoer_109 (by decide) ?_
        refine lv_iadd hx hb dX11_readsGoer_110 ?_
        refine lv_tope (y := nI (qcnt + 1)) (nI_1 _) ?_
        refine rse hf hk hw 2 rfl (j := 6) (vp_in_nI (n := 6) (by omega) (by omega)) (rfl) (mU_cnt) dX11_readsGoer_111 (W' := [cob oh 11 [.ref os, .ref ok, .ref ol, .ref ord, .int isk, .ref odd, .ref otp, .int (nI tpd), .ref olt, .int (nI (wdE byt tpd (wdE byt tpd (wdE byt tpd x0)))), .int (nI (wdS byt tpd (wdE byt tpd (wdE byt tpd x0)))), .int (tkF byt tpd (wdE byt tpd (wdE byt tpd x0))), .int u14_j0, .ref orw, .int (nI rmn), .ref oso, .ref osz, .ref oit, .ref oho, .ref ohe, .ref otr, .int (nI tcd), .int own_, .int opt], cin g os 51 (mR stp laws z cnt fogs arms kinds faiths places moved), cin g ord 51 (mR qstp qlaws qz (qcnt + 1) qfogs qarms (upd qkinds qcnt kd) (upd qfaiths qcnt 50) (upd qplaces qcnt (rdN byt tpd (wdE byt tpd (wdE byt tpd x0)) 11)) qmoved), cin g otp 200 (ubT byt), cch g olt 120 mlet]) rfl (fun H locs hw => ?_)
        refine lv_iload_n hx hb dX11_readsGoer_112 rfl (lv_at hl 2 rfl) ?_
        refine lv_if_lt (tgt := 124) hx hb dX11_readsGoer_113 (by decide) (fun _ => ?_) (fun q => absurd (Int32.not_le.mp c_6) q)
        refine lv_iconst (v := 0) hx hb dX11_readsGoer_124 (by decide) ?_
        exact rE_z hf hr hlk hw (rfl) ⟨congrArg some (by simp only [rgF, if_pos hc8, if_neg c_3, if_neg c_6]), u14_j0, (mR qstp qlaws qz (qcnt + 1) qfogs qarms (upd qkinds qcnt kd) (upd qfaiths qcnt 50) (upd qplaces qcnt (rdN byt tpd (wdE byt tpd (wdE byt tpd x0)) 11)) qmoved), ⟨by simp only [f_X7_readGoer_x, if_pos hc8, if_neg c_3, if_neg c_6]; exact u14_s, fun h => absurd (show (rgF byt tpd x0 qcnt) = 0 by simp only [rgF, if_pos hc8, if_neg c_3, if_neg c_6]) h⟩, by simp only [f_X7_readGoer_x, if_pos hc8, if_neg c_3, if_neg c_6]⟩ (show ([oh, os, ord, otp, olt] : List Nat) = [oh, os, ord, otp, olt] from rfl) dX11_readsGoer_125
  · refine lv_iconst (v := 0) hx hb dX11_readsGoer_12 (by decide) ?_
    exact rE_z hf hr hlk hw (rfl) ⟨congrArg some (by simp only [rgF, if_neg (show ¬ nI qcnt < 8 by rw [c_1]; decide)]), ovl, (mR qstp qlaws qz qcnt qfogs qarms qkinds qfaiths qplaces qmoved), ⟨by simp only [f_X7_readGoer_x, if_neg (show ¬ nI qcnt < 8 by rw [c_1]; decide)]; exact hvl, fun h => absurd (show (rgF byt tpd x0 qcnt) = 0 by simp only [rgF, if_neg (show ¬ nI qcnt < 8 by rw [c_1]; decide)]) h⟩, by simp only [f_X7_readGoer_x, if_neg (show ¬ nI qcnt < 8 by rw [c_1]; decide)]⟩ (show ([oh, os, ord, otp, olt] : List Nat) = [oh, os, ord, otp, olt] from rfl) dX11_readsGoer_13
abbrev rmX11_readsRest7 : Room := { frames := 5, cells := 0, slots := 0, locals := 108 }
set_option maxHeartbeats 4000000 in
set_option maxRecDepth 100000 in
theorem c_X11_readsRest7 (l : Launch) (g : GG) (oh : Nat) (os : Nat) (ok : Nat) (ol : Nat) (ord : Nat) (odd : Nat) (otp : Nat) (olt : Nat) (orw : Nat) (oso : Nat) (osz : Nat) (oit : Nat) (oho : Nat) (ohe : Nat) (otr : Nat) (stp : Nat) (laws : Nat → Int32) (z : Int32) (cnt : Nat) (fogs : Nat → Int32) (arms : Nat → Int32) (kinds : Nat → Int32) (faiths : Nat → Int32) (places : Nat → Int32) (moved : Nat → Int32) (isk : Int32) (tpd : Nat) (ovl : Int32) (rmn : Nat) (tcd : Nat) (own_ : Int32) (opt : Int32) (byt : Nat → Int32) (x0 : Nat) (qstp : Nat) (qlaws : Nat → Int32) (qz : Int32) (qcnt : Nat) (qfogs : Nat → Int32) (qarms : Nat → Int32) (qkinds : Nat → Int32) (qfaiths : Nat → Int32) (qplaces : Nat → Int32) (qmoved : Nat → Int32) (htz : tpd ≤ 200) (hby : ∀ j, isB (byt j)) (hx0 : x0 ≤ tpd) (hvl : vOk byt tpd x0 ovl) : mtR l g yX11_readsRest wsX11_readsRest rmX11_readsRest7 [.ref oh, .int 7] [cob oh 11 [.ref os, .ref ok, .ref ol, .ref ord, .int isk, .ref odd, .ref otp, .int (nI tpd), .ref olt, .int (nI (wdE byt tpd x0)), .int (nI (wdS byt tpd x0)), .int (tkF byt tpd x0), .int ovl, .ref orw, .int (nI rmn), .ref oso, .ref osz, .ref oit, .ref oho, .ref ohe, .ref otr, .int (nI tcd), .int own_, .int opt], cin g os 51 (mR stp laws z cnt fogs arms kinds faiths places moved), cin g ord 51 (mR qstp qlaws qz qcnt qfogs qarms qkinds qfaiths qplaces qmoved), cin g otp 200 (ubT byt), cch g olt 120 mlet] (fun rv W => rv = (some (.int (roF byt tpd x0))) ∧ ∃ (j0 : Int32) (j1 : Nat → Int32), (vOk byt tpd (f_X7_readRoster_x tpd byt x0) j0 ∧ (¬ (roF byt tpd x0) = 0 → j1 = mR qstp qlaws qz qcnt (upd qfogs (ix (rdN byt tpd (wdE byt tpd x0) 5)) (rdN byt tpd (wdE byt tpd (wdE byt tpd (wdE byt tpd x0))) 9)) qarms qkinds qfaiths qplaces qmoved)) ∧ W = [cob oh 11 [.ref os, .ref ok, .ref ol, .ref ord, .int isk, .ref odd, .ref otp, .int (nI tpd), .ref olt, .int (nI (wdE byt tpd (f_X7_readRoster_x tpd byt x0))), .int (nI (wdS byt tpd (f_X7_readRoster_x tpd byt x0))), .int (tkF byt tpd (f_X7_readRoster_x tpd byt x0)), .int j0, .ref orw, .int (nI rmn), .ref oso, .ref osz, .ref oit, .ref oho, .ref ohe, .ref otr, .int (nI tcd), .int own_, .int opt], cin g os 51 (mR stp laws z cnt fogs arms kinds faiths places moved), cin g ord 51 j1, cin g otp 200 (ubT byt), cch g olt 120 mlet]) := by
  refine mtR.of (cc := cX11_readsRest) (nL := 4) (ret := (some .boolean)) (own := RX11) (by decide +kernel) rfl rfl (Nat.le_of_ble_eq_true rfl) (fun p e s m below meth c hf hr hlk _ hk hst hw ls hl => ?_)
  have hx := hf.1
  have hb := hf.2.1
  have hts := hf.2.2.2.2
  have hl : lv_has ls 4 [(0, .ref oh), (1, .int 7)] := hl
  have h1 := wdE_b byt htz hx0
  have h2 := wdE_b byt htz h1.2
  have h3 := wdE_b byt htz h2.2
  have h4 := wdE_b byt htz h3.2
  have h5 := wdE_b byt htz h4.2
  have h6 := wdE_b byt htz h5.2
  have hinX11 : ∀ w ∈ u_ws RX11 TX11 24, w ∈ wsX11_readsRest := fun w h => List.mem_cons_of_mem _ (List.mem_append_right _ h)
  have w_0 : Cond.fieldLink RX11 19 "LightManModel" "read" "[I" ∈ wsX11_readsRest := List.mem_of_getElem? (i := 1) rfl
  refine lv_aload_n hx hb dX11_readsRest_0 rfl (lv_at hl 0 rfl) ?_
  refine mcVF hf hk hst hw (c_X11_next l g oh os ok ol ord odd otp olt orw oso osz oit oho ohe otr stp laws z cnt fogs arms kinds faiths places moved isk tpd (nI (wdS byt tpd x0)) (tkF byt tpd x0) ovl rmn tcd own_ opt (mR qstp qlaws qz qcnt qfogs qarms qkinds qfaiths qplaces qmoved) byt (wdE byt tpd x0) (by omega) (by assumption) (by omega)) (cwV 0 hts gX11_readsRest_X11_next rfl rfl rfl hdV_X11_next ⟨Nat.le_of_ble_eq_true rfl, Nat.le_of_ble_eq_true rfl⟩) 0 rfl rfl rfl hl.1 rfl (Nat.le_of_ble_eq_true rfl) dX11_readsRest_1 ⟨Nat.zero_le _, Nat.zero_le _⟩ (fun rv ws2 hPo H locs hw => ?_)
  obtain ⟨rfl, u1_j0, u1_s, rfl⟩ := hPo
  refine lv_aload_n hx hb dX11_readsRest_4 rfl (lv_at hl 0 rfl) ?_
  refine lv_iconst (v := 5) hx hb dX11_readsRest_5 (by decide) ?_
  by_cases c_2 : 0 ≤ (rdN byt tpd (wdE byt tpd x0) 5)
  · refine mcVF hf hk hst hw (c_X11_takesNumberY l g oh os ok ol ord odd otp olt orw oso osz oit oho ohe otr stp laws z cnt fogs arms kinds faiths places moved isk tpd u1_j0 rmn tcd own_ opt (mR qstp qlaws qz qcnt qfogs qarms qkinds qfaiths qplaces qmoved) byt (wdE byt tpd x0) 5 (by omega) (by assumption) (by omega) (u1_s) (c_2)) (cwV 1 hts gX11_readsRest_X11_takesNumber rfl rfl rfl hdV_X11_takesNumber ⟨Nat.le_of_ble_eq_true rfl, Nat.le_of_ble_eq_true rfl⟩) 0 rfl rfl rfl hl.1 rfl (Nat.le_of_ble_eq_true rfl) dX11_readsRest_6 ⟨Nat.zero_le _, Nat.zero_le _⟩ (fun rv ws2 hPo H locs hw => ?_)
    obtain ⟨rfl, u3_j0, u3_s, rfl⟩ := hPo
    refine lv_tope (y := nI (ix (rdN byt tpd (wdE byt tpd x0) 5))) ((rdN_n (N := 5) rfl (by decide) c_2).1) ?_
    refine lv_istore_n (lv' := [(2, .int (nI (ix (rdN byt tpd (wdE byt tpd x0) 5)))), (0, .ref oh), (1, .int 7)]) hx hb dX11_readsRest_9 rfl hl (by decide) rfl (fun ls hl => ?_)
    refine lv_iload_n hx hb dX11_readsRest_10 rfl (lv_at hl 0 rfl) ?_
    refine lv_if_lt (tgt := 23) hx hb dX11_readsRest_11 (by decide) (fun q => absurd q (nI_pos (by have := (rdN_n (N := 5) rfl (by decide) c_2).2; omega))) (fun _ => ?_)
    refine lv_aload_n hx hb dX11_readsRest_14 rfl (lv_at hl 1 rfl) ?_
    refine lv_bipush (v := 13) hx hb dX11_readsRest_15 (by decide) ?_
    by_cases c_4 : nmR byt (wdO byt tpd (wdE byt tpd (wdE byt tpd x0))) (wdS byt tpd (wdE byt tpd (wdE byt tpd x0))) (wdE byt tpd (wdE byt tpd (wdE byt tpd x0))) 13 = 0
    · refine mcVF hf hk hst hw (c_X11_takesN l g oh os ok ol ord odd otp olt orw oso osz oit oho ohe otr stp laws z cnt fogs arms kinds faiths places moved isk tpd u3_j0 rmn tcd own_ opt (mR qstp qlaws qz qcnt qfogs qarms qkinds qfaiths qplaces qmoved) byt (wdE byt tpd (wdE byt tpd x0)) 13 (by omega) (by assumption) (by omega) (u3_s) (fun h => (tk_nm hby (w := 13) (by decide)).mp h c_4)) (cwV 1 hts gX11_readsRest_X11_takes rfl rfl rfl hdV_X11_takes ⟨Nat.le_of_ble_eq_true rfl, Nat.le_of_ble_eq_true rfl⟩) 0 rfl rfl rfl hl.1 rfl (Nat.le_of_ble_eq_true rfl) dX11_readsRest_17 ⟨Nat.zero_le _, Nat.zero_le _⟩ (fun rv ws2 hPo H locs hw => ?_)
      obtain ⟨rfl, u5_j0, u5_s, rfl⟩ := hPo
      refine lv_if_ne (tgt := 25) hx hb dX11_readsRest_20 (by decide) (fun q => absurd (by decide) q) (fun _ => ?_)
      refine lv_iconst (v := 0) hx hb dX11_readsRest_23 (by decide) ?_
      exact rE_z hf hr hlk hw (rfl) ⟨congrArg some (by simp only [roF, if_pos c_2, if_pos c_4]), u5_j0, (mR qstp qlaws qz qcnt qfogs qarms qkinds qfaiths qplaces qmoved), ⟨by simp only [f_X7_readRoster_x, if_pos c_2, if_pos c_4]; exact u5_s, fun h => absurd (show (roF byt tpd x0) = 0 by simp only [roF, if_pos c_2, if_pos c_4]) h⟩, by simp only [f_X7_readRoster_x, if_pos c_2, if_pos c_4]⟩ (show ([oh, os, ord, otp, olt] : List Nat) = [oh, os, ord, otp, olt] from rfl) dX11_readsRest_24
    · refine mcVF hf hk hst hw (c_X11_takesY l g oh os ok ol ord odd otp olt orw oso osz oit oho ohe otr stp laws z cnt fogs arms kinds faiths places moved isk tpd u3_j0 rmn tcd own_ opt (mR qstp qlaws qz qcnt qfogs qarms qkinds qfaiths qplaces qmoved) byt (wdE byt tpd (wdE byt tpd x0)) 13 (by omega) (by assumption) (by omega) (u3_s) ((tk_nm hby (w := 13) (by decide)).mpr c_4)) (cwV 1 hts gX11_readsRest_X11_takes rfl rfl rfl hdV_X11_takes ⟨Nat.le_of_ble_eq_true rfl, Nat.le_of_ble_eq_true rfl⟩) 0 rfl rfl rfl hl.1 rfl (Nat.le_of_ble_eq_true rfl) dX11_readsRest_17 ⟨Nat.zero_le _, Nat.zero_le _⟩ (fun rv ws2 hPo H locs hw => ?_)
      obtain ⟨rfl, u6_j0, u6_s, rfl⟩ := hPo
      refine lv_if_ne (tgt := 25) hx hb dX11_readsRest_20 (by decide) (fun _ => ?_) (fun q => absurd q (by decide))
      refine lv_aload_n hx hb dX11_readsRest_25 rfl (lv_at hl 1 rfl) ?_
      refine lv_bipush (v := 9) hx hb dX11_readsRest_26 (by decide) ?_
      by_cases c_7 : 0 ≤ (rdN byt tpd (wdE byt tpd (wdE byt tpd (wdE byt tpd x0))) 9)
      · refine mcVF hf hk hst hw (c_X11_takesNumberY l g oh os ok ol ord odd otp olt orw oso osz oit oho ohe otr stp laws z cnt fogs arms kinds faiths places moved isk tpd u6_j0 rmn tcd own_ opt (mR qstp qlaws qz qcnt qfogs qarms qkinds qfaiths qplaces qmoved) byt (wdE byt tpd (wdE byt tpd (wdE byt tpd x0))) 9 (by omega) (by assumption) (by omega) (u6_s) (c_7)) (cwV 1 hts gX11_readsRest_X11_takesNumber rfl rfl rfl hdV_X11_takesNumber ⟨Nat.le_of_ble_eq_true rfl, Nat.le_of_ble_eq_true rfl⟩) 0 rfl rfl rfl hl.1 rfl (Nat.le_of_ble_eq_true rfl) dX11_readsRest_28 ⟨Nat.zero_le _, Nat.zero_le _⟩ (fun rv ws2 hPo H locs hw => ?_)
        obtain ⟨rfl, u8_j0, u8_s, rfl⟩ := hPo
        refine lv_istore_n (lv' := [(3, .int (rdN byt tpd (wdE byt tpd (wdE byt tpd (wdE byt tpd x0))) 9)), (2, .int (nI (ix (rdN byt tpd (wdE byt tpd x0) 5)))), (0, .ref oh), (1, .int 7)]) hx hb dX11_readsRest_31 rfl hl (by decide) rfl (fun ls hl => ?_)
        refine lv_aload_n hx hb dX11_readsRest_32 rfl (lv_at hl 2 rfl) ?_
        refine rg hf hk hw hinX11 0 rfl rfl 3 (by decide) w_0 rfl dX11_readsRest_33 ?_
        refine lv_iload_n hx hb dX11_readsRest_36 rfl (lv_at hl 3 rfl) ?_
        refine lv_iload_n hx hb dX11_readsRest_37 rfl (lv_at hl 1 rfl) ?_
        refine lv_iadd hx hb dX11_readsRest_38 ?_
        refine lv_tope (y := nI (7 + (ix (rdN byt tpd (wdE byt tpd x0) 5)))) (nI_add 7 _) ?_
        refine lv_iload_n hx hb dX11_readsRest_39 rfl (lv_at hl 0 rfl) ?_
        have hr5 := (rdN_n (N := 5) rfl (by decide) c_2).2
        refine rse hf hk hw 2 rfl (j := 7 + (ix (rdN byt tpd (wdE byt tpd x0) 5))) (vp_in_nI (by have := (rdN_n (N := 5) rfl (by decide) c_2).2; omega) (by omega)) (nI_clamp (by have := (rdN_n (N := 5) rfl (by decide) c_2).2; omega)) (mU_fog (r := ix (rdN byt tpd (wdE byt tpd x0) 5)) (by omega)) dX11_readsRest_40 (W' := [cob oh 11 [.ref os, .ref ok, .ref ol, .ref ord, .int isk, .ref odd, .ref otp, .int (nI tpd), .ref olt, .int (nI (wdE byt tpd (wdE byt tpd (wdE byt tpd (wdE byt tpd (wdE byt tpd x0)))))), .int (nI (wdS byt tpd (wdE byt tpd (wdE byt tpd (wdE byt tpd (wdE byt tpd x0)))))), .int (tkF byt tpd (wdE byt tpd (wdE byt tpd (wdE byt tpd (wdE byt tpd x0))))), .int u8_j0, .ref orw, .int (nI rmn), .ref oso, .ref osz, .ref oit, .ref oho, .ref ohe, .ref otr, .int (nI tcd), .int own_, .int opt], cin g os 51 (mR stp laws z cnt fogs arms kinds faiths places moved), cin g ord 51 (mR qstp qlaws qz qcnt (upd qfogs (ix (rdN byt tpd (wdE byt tpd x0) 5)) (rdN byt tpd (wdE byt tpd (wdE byt tpd (wdE byt tpd x0))) 9)) qarms qkinds qfaiths qplaces qmoved), cin g otp 200 (ubT byt), cch g olt 120 mlet]) rfl (fun H locs hw => ?_)
        refine lv_iload_n hx hb dX11_readsRest_41 rfl (lv_at hl 0 rfl) ?_
        refine lv_if_lt (tgt := 49) hx hb dX11_readsRest_42 (by decide) (fun q => absurd q (Int32.not_lt.mpr c_7)) (fun _ => ?_)
        refine lv_iconst (v := 1) hx hb dX11_readsRest_45 (by decide) ?_
        refine lv_goto (tgt := 50) hx hb dX11_readsRest_46 (by decide) ?_
        exact rE_z hf hr hlk hw (rfl) ⟨congrArg some (by simp only [roF, if_pos c_2, if_neg c_4, if_pos c_7]), u8_j0, (mR qstp qlaws qz qcnt (upd qfogs (ix (rdN byt tpd (wdE byt tpd x0) 5)) (rdN byt tpd (wdE byt tpd (wdE byt tpd (wdE byt tpd x0))) 9)) qarms qkinds qfaiths qplaces qmoved), ⟨by simp only [f_X7_readRoster_x, if_pos c_2, if_neg c_4, if_pos c_7]; exact u8_s, fun _ => rfl⟩, by simp only [f_X7_readRoster_x, if_pos c_2, if_neg c_4, if_pos c_7]⟩ (show ([oh, os, ord, otp, olt] : List Nat) = [oh, os, ord, otp, olt] from rfl) dX11_readsRest_50
      · refine mcVF hf hk hst hw (c_X11_takesNumberN l g oh os ok ol ord odd otp olt orw oso osz oit oho ohe otr stp laws z cnt fogs arms kinds faiths places moved isk tpd u6_j0 rmn tcd own_ opt (mR qstp qlaws qz qcnt qfogs qarms qkinds qfaiths qplaces qmoved) byt (wdE byt tpd (wdE byt tpd (wdE byt tpd x0))) 9 (by omega) (by assumption) (by omega) (u6_s) (c_7)) (cwV 1 hts gX11_readsRest_X11_takesNumber rfl rfl rfl hdV_X11_takesNumber ⟨Nat.le_of_ble_eq_true rfl, Nat.le_of_ble_eq_true rfl⟩) 0 rfl rfl rfl hl.1 rfl (Nat.le_of_ble_eq_true rfl) dX11_readsRest_28 ⟨Nat.zero_le _, Nat.zero_le _⟩ (fun rv ws2 hPo H locs hw => ?_)
        obtain ⟨rfl, u9_j0, u9_s, rfl⟩ := hPo
        refine lv_istore_n (lv' := [(3, .int (rdN byt tpd (wdE byt tpd (wdE byt tpd (wdE byt tpd x0))) 9)), (2, .int (nI (ix (rdN byt tpd (wdE byt tpd x0) 5)))), (0, .ref oh), (1, .int 7)]) hx hb dX11_readsRest_31 rfl hl (by decide) rfl (fun ls hl => ?_)
        refine lv_aload_n hx hb dX11_readsRest_32 rfl (lv_at hl 2 rfl) ?_
        refine rg hf hk hw hinX11 0 rfl rfl 3 (by decide) w_0 rfl dX11_readsRest_33 ?_
        refine lv_iload_n hx hb dX11_readsRest_36 rfl (lv_at hl 3 rfl) ?_
        refine lv_iload_n hx hb dX11_readsRest_37 rfl (lv_at hl 1 rfl) ?_
        refine lv_iadd hx hb dX11_readsRest_38 ?_
        refine lv_tope (y := nI (7 + (ix (rdN byt tpd (wdE byt tpd x0) 5)))) (nI_add 7 _) ?_
        refine lv_iload_n hx hb dX11_readsRest_39 rfl (lv_at hl 0 rfl) ?_
        have hr5 := (rdN_n (N := 5) rfl (by decide) c_2).2
        refine rse hf hk hw 2 rfl (j := 7 + (ix (rdN byt tpd (wdE byt tpd x0) 5))) (vp_in_nI (by have := (rdN_n (N := 5) rfl (by decide) c_2).2; omega) (by omega)) (nI_clamp (by have := (rdN_n (N := 5) rfl (by decide) c_2).2; omega)) (mU_fog (r := ix (rdN byt tpd (wdE byt tpd x0) 5)) (by omega)) dX11_readsRest_40 (W' := [cob oh 11 [.ref os, .ref ok, .ref ol, .ref ord, .int isk, .ref odd, .ref otp, .int (nI tpd), .ref olt, .int (nI (wdE byt tpd (wdE byt tpd (wdE byt tpd (wdE byt tpd x0))))), .int (nI (wdS byt tpd (wdE byt tpd (wdE byt tpd (wdE byt tpd x0))))), .int (tkF byt tpd (wdE byt tpd (wdE byt tpd (wdE byt tpd x0)))), .int u9_j0, .ref orw, .int (nI rmn), .ref oso, .ref osz, .ref oit, .ref oho, .ref ohe, .ref otr, .int (nI tcd), .int own_, .int opt], cin g os 51 (mR stp laws z cnt fogs arms kinds faiths places moved), cin g ord 51 (mR qstp qlaws qz qcnt (upd qfogs (ix (rdN byt tpd (wdE byt tpd x0) 5)) (rdN byt tpd (wdE byt tpd (wdE byt tpd (wdE byt tpd x0))) 9)) qarms qkinds qfaiths qplaces qmoved), cin g otp 200 (ubT byt), cch g olt 120 mlet]) rfl (fun H locs hw => ?_)
        refine lv_iload_n hx hb dX11_readsRest_41 rfl (lv_at hl 0 rfl) ?_
        refine lv_if_lt (tgt := 49) hx hb dX11_readsRest_42 (by decide) (fun _ => ?_) (fun q => absurd (Int32.not_le.mp c_7) q)
        refine lv_iconst (v := 0) hx hb dX11_readsRest_49 (by decide) ?_
        exact rE_z hf hr hlk hw (rfl) ⟨congrArg some (by simp only [roF, if_pos c_2, if_neg c_4, if_neg c_7]), u9_j0, (mR qstp qlaws qz qcnt (upd qfogs (ix (rdN byt tpd (wdE byt tpd x0) 5)) (rdN byt tpd (wdE byt tpd (wdE byt tpd (wdE byt tpd x0))) 9)) qarms qkinds qfaiths qplaces qmoved), ⟨by simp only [f_X7_readRoster_x, if_pos c_2, if_neg c_4, if_neg c_7]; exact u9_s, fun h => absurd (show (roF byt tpd x0) = 0 by simp only [roF, if_pos c_2, if_neg c_4, if_neg c_7]) h⟩, by simp only [f_X7_readRoster_x, if_pos c_2, if_neg c_4, if_neg c_7]⟩ (show ([oh, os, ord, otp, olt] : List Nat) = [oh, os, ord, otp, olt] from rfl) dX11_readsRest_50
  · refine mcVF hf hk hst hw (c_X11_takesNumberN l g oh os ok ol ord odd otp olt orw oso osz oit oho ohe otr stp laws z cnt fogs arms kinds faiths places moved isk tpd u1_j0 rmn tcd own_ opt (mR qstp qlaws qz qcnt qfogs qarms qkinds qfaiths qplaces qmoved) byt (wdE byt tpd x0) 5 (by omega) (by assumption) (by omega) (u1_s) (c_2)) (cwV 1 hts gX11_readsRest_X11_takesNumber rfl rfl rfl hdV_X11_takesNumber ⟨Nat.le_of_ble_eq_true rfl, Nat.le_of_ble_eq_true rfl⟩) 0 rfl rfl rfl hl.1 rfl (Nat.le_of_ble_eq_true rfl) dX11_readsRest_6 ⟨Nat.zero_le _, Nat.zero_le _⟩ (fun rv ws2 hPo H locs hw => ?_)
    obtain ⟨rfl, u10_j0, u10_s, rfl⟩ := hPo
    refine lv_tope (y := rdN byt tpd (wdE byt tpd x0) 5) (rfl) ?_
    refine lv_istore_n (lv' := [(2, .int (rdN byt tpd (wdE byt tpd x0) 5)), (0, .ref oh), (1, .int 7)]) hx hb dX11_readsRest_9 rfl hl (by decide) rfl (fun ls hl => ?_)
    refine lv_iload_n hx hb dX11_readsRest_10 rfl (lv_at hl 0 rfl) ?_
    refine lv_if_lt (tgt := 23) hx hb dX11_readsRest_11 (by decide) (fun _ => ?_) (fun q => absurd (Int32.not_le.mp c_2) q)
    refine lv_iconst (v := 0) hx hb dX11_readsRest_23 (by decide) ?_
    exact rE_z hf hr hlk hw (rfl) ⟨congrArg some (by simp only [roF, if_neg c_2]), u10_j0, (mR qstp qlaws qz qcnt qfogs qarms qkinds qfaiths qplaces qmoved), ⟨by simp only [f_X7_readRoster_x, if_neg c_2]; exact u10_s, fun h => absurd (show (roF byt tpd x0) = 0 by simp only [roF, if_neg c_2]) h⟩, by simp only [f_X7_readRoster_x, if_neg c_2]⟩ (show ([oh, os, ord, otp, olt] : List Nat) = [oh, os, ord, otp, olt] from rfl) dX11_readsRest_24
abbrev rmX11_readsRest13 : Room := { frames := 5, cells := 0, slots := 0, locals := 108 }
set_option maxHeartbeats 4000000 in
set_option maxRecDepth 100000 in
theorem c_X11_readsRest13 (l : Launch) (g : GG) (oh : Nat) (os : Nat) (ok : Nat) (ol : Nat) (ord : Nat) (odd : Nat) (otp : Nat) (olt : Nat) (orw : Nat) (oso : Nat) (osz : Nat) (oit : Nat) (oho : Nat) (ohe : Nat) (otr : Nat) (stp : Nat) (laws : Nat → Int32) (z : Int32) (cnt : Nat) (fogs : Nat → Int32) (arms : Nat → Int32) (kinds : Nat → Int32) (faiths : Nat → Int32) (places : Nat → Int32) (moved : Nat → Int32) (isk : Int32) (tpd : Nat) (ovl : Int32) (rmn : Nat) (tcd : Nat) (own_ : Int32) (opt : Int32) (byt : Nat → Int32) (x0 : Nat) (qstp : Nat) (qlaws : Nat → Int32) (qz : Int32) (qcnt : Nat) (qfogs : Nat → Int32) (qarms : Nat → Int32) (qkinds : Nat → Int32) (qfaiths : Nat → Int32) (qplaces : Nat → Int32) (qmoved : Nat → Int32) (htz : tpd ≤ 200) (hby : ∀ j, isB (byt j)) (hx0 : x0 ≤ tpd) (hvl : vOk byt tpd x0 ovl) : mtR l g yX11_readsRest wsX11_readsRest rmX11_readsRest13 [.ref oh, .int 13] [cob oh 11 [.ref os, .ref ok, .ref ol, .ref ord, .int isk, .ref odd, .ref otp, .int (nI tpd), .ref olt, .int (nI (wdE byt tpd x0)), .int (nI (wdS byt tpd x0)), .int (tkF byt tpd x0), .int ovl, .ref orw, .int (nI rmn), .ref oso, .ref osz, .ref oit, .ref oho, .ref ohe, .ref otr, .int (nI tcd), .int own_, .int opt], cin g os 51 (mR stp laws z cnt fogs arms kinds faiths places moved), cin g ord 51 (mR qstp qlaws qz qcnt qfogs qarms qkinds qfaiths qplaces qmoved), cin g otp 200 (ubT byt), cch g olt 120 mlet] (fun rv W => rv = (some (.int (roF byt tpd x0))) ∧ ∃ (j0 : Int32) (j1 : Nat → Int32), (vOk byt tpd (f_X7_readRoster_x tpd byt x0) j0 ∧ (¬ (roF byt tpd x0) = 0 → j1 = mR qstp qlaws qz qcnt qfogs (upd qarms (ix (rdN byt tpd (wdE byt tpd x0) 5)) (rdN byt tpd (wdE byt tpd (wdE byt tpd (wdE byt tpd x0))) 9)) qkinds qfaiths qplaces qmoved)) ∧ W = [cob oh 11 [.ref os, .ref ok, .ref ol, .ref ord, .int isk, .ref odd, .ref otp, .int (nI tpd), .ref olt, .int (nI (wdE byt tpd (f_X7_readRoster_x tpd byt x0))), .int (nI (wdS byt tpd (f_X7_readRoster_x tpd byt x0))), .int (tkF byt tpd (f_X7_readRoster_x tpd byt x0)), .int j0, .ref orw, .int (nI rmn), .ref oso, .ref osz, .ref oit, .ref oho, .ref ohe, .ref otr, .int (nI tcd), .int own_, .int opt], cin g os 51 (mR stp laws z cnt fogs arms kinds faiths places moved), cin g ord 51 j1, cin g otp 200 (ubT byt), cch g olt 120 mlet]) := by
  refine mtR.of (cc := cX11_readsRest) (nL := 4) (ret := (some .boolean)) (own := RX11) (by decide +kernel) rfl rfl (Nat.le_of_ble_eq_true rfl) (fun p e s m below meth c hf hr hlk _ hk hst hw ls hl => ?_)
  have hx := hf.1
  have hb := hf.2.1
  have hts := hf.2.2.2.2
  have hl : lv_has ls 4 [(0, .ref oh), (1, .int 13)] := hl
  have h1 := wdE_b byt htz hx0
  have h2 := wdE_b byt htz h1.2
  have h3 := wdE_b byt htz h2.2
  have h4 := wdE_b byt htz h3.2
  have h5 := wdE_b byt htz h4.2
  have h6 := wdE_b byt htz h5.2
  have hinX11 : ∀ w ∈ u_ws RX11 TX11 24, w ∈ wsX11_readsRest := fun w h => List.mem_cons_of_mem _ (List.mem_append_right _ h)
  have w_0 : Cond.fieldLink RX11 19 "LightManModel" "read" "[I" ∈ wsX11_readsRest := List.mem_of_getElem? (i := 1) rfl
  refine lv_aload_n hx hb dX11_readsRest_0 rfl (lv_at hl 0 rfl) ?_
  refine mcVF hf hk hst hw (c_X11_next l g oh os ok ol ord odd otp olt orw oso osz oit oho ohe otr stp laws z cnt fogs arms kinds faiths places moved isk tpd (nI (wdS byt tpd x0)) (tkF byt tpd x0) ovl rmn tcd own_ opt (mR qstp qlaws qz qcnt qfogs qarms qkinds qfaiths qplaces qmoved) byt (wdE byt tpd x0) (by omega) (by assumption) (by omega)) (cwV 0 hts gX11_readsRest_X11_next rfl rfl rfl hdV_X11_next ⟨Nat.le_of_ble_eq_true rfl, Nat.le_of_ble_eq_true rfl⟩) 0 rfl rfl rfl hl.1 rfl (Nat.le_of_ble_eq_true rfl) dX11_readsRest_1 ⟨Nat.zero_le _, Nat.zero_le _⟩ (fun rv ws2 hPo H locs hw => ?_)
  obtain ⟨rfl, u1_j0, u1_s, rfl⟩ := hPo
  refine lv_aload_n hx hb dX11_readsRest_4 rfl (lv_at hl 0 rfl) ?_
  refine lv_iconst (v := 5) hx hb dX11_readsRest_5 (by decide) ?_
  by_cases c_2 : 0 ≤ (rdN byt tpd (wdE byt tpd x0) 5)
  · refine mcVF hf hk hst hw (c_X11_takesNumberY l g oh os ok ol ord odd otp olt orw oso osz oit oho ohe otr stp laws z cnt fogs arms kinds faiths places moved isk tpd u1_j0 rmn tcd own_ opt (mR qstp qlaws qz qcnt qfogs qarms qkinds qfaiths qplaces qmoved) byt (wdE byt tpd x0) 5 (by omega) (by assumption) (by omega) (u1_s) (c_2)) (cwV 1 hts gX11_readsRest_X11_takesNumber rfl rfl rfl hdV_X11_takesNumber ⟨Nat.le_of_ble_eq_true rfl, Nat.le_of_ble_eq_true rfl⟩) 0 rfl rfl rfl hl.1 rfl (Nat.le_of_ble_eq_true rfl) dX11_readsRest_6 ⟨Nat.zero_le _, Nat.zero_le _⟩ (fun rv ws2 hPo H locs hw => ?_)
    obtain ⟨rfl, u3_j0, u3_s, rfl⟩ := hPo
    refine lv_tope (y := nI (ix (rdN byt tpd (wdE byt tpd x0) 5))) ((rdN_n (N := 5) rfl (by decide) c_2).1) ?_
    refine lv_istore_n (lv' := [(2, .int (nI (ix (rdN byt tpd (wdE byt tpd x0) 5)))), (0, .ref oh), (1, .int 13)]) hx hb dX11_readsRest_9 rfl hl (by decide) rfl (fun ls hl => ?_)
    refine lv_iload_n hx hb dX11_readsRest_10 rfl (lv_at hl 0 rfl) ?_
    refine lv_if_lt (tgt := 23) hx hb dX11_readsRest_11 (by decide) (fun q => absurd q (nI_pos (by have := (rdN_n (N := 5) rfl (by decide) c_2).2; omega))) (fun _ => ?_)
    refine lv_aload_n hx hb dX11_readsRest_14 rfl (lv_at hl 1 rfl) ?_
    refine lv_bipush (v := 13) hx hb dX11_readsRest_15 (by decide) ?_
    by_cases c_4 : nmR byt (wdO byt tpd (wdE byt tpd (wdE byt tpd x0))) (wdS byt tpd (wdE byt tpd (wdE byt tpd x0))) (wdE byt tpd (wdE byt tpd (wdE byt tpd x0))) 13 = 0
    · refine mcVF hf hk hst hw (c_X11_takesN l g oh os ok ol ord odd otp olt orw oso osz oit oho ohe otr stp laws z cnt fogs arms kinds faiths places moved isk tpd u3_j0 rmn tcd own_ opt (mR qstp qlaws qz qcnt qfogs qarms qkinds qfaiths qplaces qmoved) byt (wdE byt tpd (wdE byt tpd x0)) 13 (by omega) (by assumption) (by omega) (u3_s) (fun h => (tk_nm hby (w := 13) (by decide)).mp h c_4)) (cwV 1 hts gX11_readsRest_X11_takes rfl rfl rfl hdV_X11_takes ⟨Nat.le_of_ble_eq_true rfl, Nat.le_of_ble_eq_true rfl⟩) 0 rfl rfl rfl hl.1 rfl (Nat.le_of_ble_eq_true rfl) dX11_readsRest_17 ⟨Nat.zero_le _, Nat.zero_le _⟩ (fun rv ws2 hPo H locs hw => ?_)
      obtain ⟨rfl, u5_j0, u5_s, rfl⟩ := hPo
      refine lv_if_ne (tgt := 25) hx hb dX11_readsRest_20 (by decide) (fun q => absurd (by decide) q) (fun _ => ?_)
      refine lv_iconst (v := 0) hx hb dX11_readsRest_23 (by decide) ?_
      exact rE_z hf hr hlk hw (rfl) ⟨congrArg some (by simp only [roF, if_pos c_2, if_pos c_4]), u5_j0, (mR qstp qlaws qz qcnt qfogs qarms qkinds qfaiths qplaces qmoved), ⟨by simp only [f_X7_readRoster_x, if_pos c_2, if_pos c_4]; exact u5_s, fun h => absurd (show (roF byt tpd x0) = 0 by simp only [roF, if_pos c_2, if_pos c_4]) h⟩, by simp only [f_X7_readRoster_x, if_pos c_2, if_pos c_4]⟩ (show ([oh, os, ord, otp, olt] : List Nat) = [oh, os, ord, otp, olt] from rfl) dX11_readsRest_24
    · refine mcVF hf hk hst hw (c_X11_takesY l g oh os ok ol ord odd otp olt orw oso osz oit oho ohe otr stp laws z cnt fogs arms kinds faiths places moved isk tpd u3_j0 rmn tcd own_ opt (mR qstp qlaws qz qcnt qfogs qarms qkinds qfaiths qplaces qmoved) byt (wdE byt tpd (wdE byt tpd x0)) 13 (by omega) (by assumption) (by omega) (u3_s) ((tk_nm hby (w := 13) (by decide)).mpr c_4)) (cwV 1 hts gX11_readsRest_X11_takes rfl rfl rfl hdV_X11_takes ⟨Nat.le_of_ble_eq_true rfl, Nat.le_of_ble_eq_true rfl⟩) 0 rfl rfl rfl hl.1 rfl (Nat.le_of_ble_eq_true rfl) dX11_readsRest_17 ⟨Nat.zero_le _, Nat.zero_le _⟩ (fun rv ws2 hPo H locs hw => ?_)
      obtain ⟨rfl, u6_j0, u6_s, rfl⟩ := hPo
      refine lv_if_ne (tgt := 25) hx hb dX11_readsRest_20 (by decide) (fun _ => ?_) (fun q => absurd q (by decide))
      refine lv_aload_n hx hb dX11_readsRest_25 rfl (lv_at hl 1 rfl) ?_
      refine lv_bipush (v := 9) hx hb dX11_readsRest_26 (by decide) ?_
      by_cases c_7 : 0 ≤ (rdN byt tpd (wdE byt tpd (wdE byt tpd (wdE byt tpd x0))) 9)
      · refine mcVF hf hk hst hw (c_X11_takesNumberY l g oh os ok ol ord odd otp olt orw oso osz oit oho ohe otr stp laws z cnt fogs arms kinds faiths places moved isk tpd u6_j0 rmn tcd own_ opt (mR qstp qlaws qz qcnt qfogs qarms qkinds qfaiths qplaces qmoved) byt (wdE byt tpd (wdE byt tpd (wdE byt tpd x0))) 9 (by omega) (by assumption) (by omega) (u6_s) (c_7)) (cwV 1 hts gX11_readsRest_X11_takesNumber rfl rfl rfl hdV_X11_takesNumber ⟨Nat.le_of_ble_eq_true rfl, Nat.le_of_ble_eq_true rfl⟩) 0 rfl rfl rfl hl.1 rfl (Nat.le_of_ble_eq_true rfl) dX11_readsRest_28 ⟨Nat.zero_le _, Nat.zero_le _⟩ (fun rv ws2 hPo H locs hw => ?_)
        obtain ⟨rfl, u8_j0, u8_s, rfl⟩ := hPo
        refine lv_istore_n (lv' := [(3, .int (rdN byt tpd (wdE byt tpd (wdE byt tpd (wdE byt tpd x0))) 9)), (2, .int (nI (ix (rdN byt tpd (wdE byt tpd x0) 5)))), (0, .ref oh), (1, .int 13)]) hx hb dX11_readsRest_31 rfl hl (by decide) rfl (fun ls hl => ?_)
        refine lv_aload_n hx hb dX11_readsRest_32 rfl (lv_at hl 2 rfl) ?_
        refine rg hf hk hw hinX11 0 rfl rfl 3 (by decide) w_0 rfl dX11_readsRest_33 ?_
        refine lv_iload_n hx hb dX11_readsRest_36 rfl (lv_at hl 3 rfl) ?_
        refine lv_iload_n hx hb dX11_readsRest_37 rfl (lv_at hl 1 rfl) ?_
        refine lv_iadd hx hb dX11_readsRest_38 ?_
        refine lv_tope (y := nI (13 + (ix (rdN byt tpd (wdE byt tpd x0) 5)))) (nI_add 13 _) ?_
        refine lv_iload_n hx hb dX11_readsRest_39 rfl (lv_at hl 0 rfl) ?_
        have hr5 := (rdN_n (N := 5) rfl (by decide) c_2).2
        refine rse hf hk hw 2 rfl (j := 13 + (ix (rdN byt tpd (wdE byt tpd x0) 5))) (vp_in_nI (by have := (rdN_n (N := 5) rfl (by decide) c_2).2; omega) (by omega)) (nI_clamp (by have := (rdN_n (N := 5) rfl (by decide) c_2).2; omega)) (mU_arm (r := ix (rdN byt tpd (wdE byt tpd x0) 5)) (by omega)) dX11_readsRest_40 (W' := [cob oh 11 [.ref os, .ref ok, .ref ol, .ref ord, .int isk, .ref odd, .ref otp, .int (nI tpd), .ref olt, .int (nI (wdE byt tpd (wdE byt tpd (wdE byt tpd (wdE byt tpd (wdE byt tpd x0)))))), .int (nI (wdS byt tpd (wdE byt tpd (wdE byt tpd (wdE byt tpd (wdE byt tpd x0)))))), .int (tkF byt tpd (wdE byt tpd (wdE byt tpd (wdE byt tpd (wdE byt tpd x0))))), .int u8_j0, .ref orw, .int (nI rmn), .ref oso, .ref osz, .ref oit, .ref oho, .ref ohe, .ref otr, .int (nI tcd), .int own_, .int opt], cin g os 51 (mR stp laws z cnt fogs arms kinds faiths places moved), cin g ord 51 (mR qstp qlaws qz qcnt qfogs (upd qarms (ix (rdN byt tpd (wdE byt tpd x0) 5)) (rdN byt tpd (wdE byt tpd (wdE byt tpd (wdE byt tpd x0))) 9)) qkinds qfaiths qplaces qmoved), cin g otp 200 (ubT byt), cch g olt 120 mlet]) rfl (fun H locs hw => ?_)
        refine lv_iload_n hx hb dX11_readsRest_41 rfl (lv_at hl 0 rfl) ?_
        refine lv_if_lt (tgt := 49) hx hb dX11_readsRest_42 (by decide) (fun q => absurd q (Int32.not_lt.mpr c_7)) (fun _ => ?_)
        refine lv_iconst (v := 1) hx hb dX11_readsRest_45 (by decide) ?_
        refine lv_goto (tgt := 50) hx hb dX11_readsRest_46 (by decide) ?_
        exact rE_z hf hr hlk hw (rfl) ⟨congrArg some (by simp only [roF, if_pos c_2, if_neg c_4, if_pos c_7]), u8_j0, (mR qstp qlaws qz qcnt qfogs (upd qarms (ix (rdN byt tpd (wdE byt tpd x0) 5)) (rdN byt tpd (wdE byt tpd (wdE byt tpd (wdE byt tpd x0))) 9)) qkinds qfaiths qplaces qmoved), ⟨by simp only [f_X7_readRoster_x, if_pos c_2, if_neg c_4, if_pos c_7]; exact u8_s, fun _ => rfl⟩, by simp only [f_X7_readRoster_x, if_pos c_2, if_neg c_4, if_pos c_7]⟩ (show ([oh, os, ord, otp, olt] : List Nat) = [oh, os, ord, otp, olt] from rfl) dX11_readsRest_50
      · refine mcVF hf hk hst hw (c_X11_takesNumberN l g oh os ok ol ord odd otp olt orw oso osz oit oho ohe otr stp laws z cnt fogs arms kinds faiths places moved isk tpd u6_j0 rmn tcd own_ opt (mR qstp qlaws qz qcnt qfogs qarms qkinds qfaiths qplaces qmoved) byt (wdE byt tpd (wdE byt tpd (wdE byt tpd x0))) 9 (by omega) (by assumption) (by omega) (u6_s) (c_7)) (cwV 1 hts gX11_readsRest_X11_takesNumber rfl rfl rfl hdV_X11_takesNumber ⟨Nat.le_of_ble_eq_true rfl, Nat.le_of_ble_eq_true rfl⟩) 0 rfl rfl rfl hl.1 rfl (Nat.le_of_ble_eq_true rfl) dX11_readsRest_28 ⟨Nat.zero_le _, Nat.zero_le _⟩ (fun rv ws2 hPo H locs hw => ?_)
        obtain ⟨rfl, u9_j0, u9_s, rfl⟩ := hPo
        refine lv_istore_n (lv' := [(3, .int (rdN byt tpd (wdE byt tpd (wdE byt tpd (wdE byt tpd x0))) 9)), (2, .int (nI (ix (rdN byt tpd (wdE byt tpd x0) 5)))), (0, .ref oh), (1, .int 13)]) hx hb dX11_readsRest_31 rfl hl (by decide) rfl (fun ls hl => ?_)
        refine lv_aload_n hx hb dX11_readsRest_32 rfl (lv_at hl 2 rfl) ?_
        refine rg hf hk hw hinX11 0 rfl rfl 3 (by decide) w_0 rfl dX11_readsRest_33 ?_
        refine lv_iload_n hx hb dX11_readsRest_36 rfl (lv_at hl 3 rfl) ?_
        refine lv_iload_n hx hb dX11_readsRest_37 rfl (lv_at hl 1 rfl) ?_
        refine lv_iadd hx hb dX11_readsRest_38 ?_
        refine lv_tope (y := nI (13 + (ix (rdN byt tpd (wdE byt tpd x0) 5)))) (nI_add 13 _) ?_
        refine lv_iload_n hx hb dX11_readsRest_39 rfl (lv_at hl 0 rfl) ?_
        have hr5 := (rdN_n (N := 5) rfl (by decide) c_2).2
        refine rse hf hk hw 2 rfl (j := 13 + (ix (rdN byt tpd (wdE byt tpd x0) 5))) (vp_in_nI (by have := (rdN_n (N := 5) rfl (by decide) c_2).2; omega) (by omega)) (nI_clamp (by have := (rdN_n (N := 5) rfl (by decide) c_2).2; omega)) (mU_arm (r := ix (rdN byt tpd (wdE byt tpd x0) 5)) (by omega)) dX11_readsRest_40 (W' := [cob oh 11 [.ref os, .ref ok, .ref ol, .ref ord, .int isk, .ref odd, .ref otp, .int (nI tpd), .ref olt, .int (nI (wdE byt tpd (wdE byt tpd (wdE byt tpd (wdE byt tpd x0))))), .int (nI (wdS byt tpd (wdE byt tpd (wdE byt tpd (wdE byt tpd x0))))), .int (tkF byt tpd (wdE byt tpd (wdE byt tpd (wdE byt tpd x0)))), .int u9_j0, .ref orw, .int (nI rmn), .ref oso, .ref osz, .ref oit, .ref oho, .ref ohe, .ref otr, .int (nI tcd), .int own_, .int opt], cin g os 51 (mR stp laws z cnt fogs arms kinds faiths places moved), cin g ord 51 (mR qstp qlaws qz qcnt qfogs (upd qarms (ix (rdN byt tpd (wdE byt tpd x0) 5)) (rdN byt tpd (wdE byt tpd (wdE byt tpd (wdE byt tpd x0))) 9)) qkinds qfaiths qplaces qmoved), cin g otp 200 (ubT byt), cch g olt 120 mlet]) rfl (fun H locs hw => ?_)
        refine lv_iload_n hx hb dX11_readsRest_41 rfl (lv_at hl 0 rfl) ?_
        refine lv_if_lt (tgt := 49) hx hb dX11_readsRest_42 (by decide) (fun _ => ?_) (fun q => absurd (Int32.not_le.mp c_7) q)
        refine lv_iconst (v := 0) hx hb dX11_readsRest_49 (by decide) ?_
        exact rE_z hf hr hlk hw (rfl) ⟨congrArg some (by simp only [roF, if_pos c_2, if_neg c_4, if_neg c_7]), u9_j0, (mR qstp qlaws qz qcnt qfogs (upd qarms (ix (rdN byt tpd (wdE byt tpd x0) 5)) (rdN byt tpd (wdE byt tpd (wdE byt tpd (wdE byt tpd x0))) 9)) qkinds qfaiths qplaces qmoved), ⟨by simp only [f_X7_readRoster_x, if_pos c_2, if_neg c_4, if_neg c_7]; exact u9_s, fun h => absurd (show (roF byt tpd x0) = 0 by simp only [roF, if_pos c_2, if_neg c_4, if_neg c_7]) h⟩, by simp only [f_X7_readRoster_x, if_pos c_2, if_neg c_4, if_neg c_7]⟩ (show ([oh, os, ord, otp, olt] : List Nat) = [oh, os, ord, otp, olt] from rfl) dX11_readsRest_50
  · refine mcVF hf hk hst hw (c_X11_takesNumberN l g oh os ok ol ord odd otp olt orw oso osz oit oho ohe otr stp laws z cnt fogs arms kinds faiths places moved isk tpd u1_j0 rmn tcd own_ opt (mR qstp qlaws qz qcnt qfogs qarms qkinds qfaiths qplaces qmoved) byt (wdE byt tpd x0) 5 (by omega) (by assumption) (by omega) (u1_s) (c_2)) (cwV 1 hts gX11_readsRest_X11_takesNumber rfl rfl rfl hdV_X11_takesNumber ⟨Nat.le_of_ble_eq_true rfl, Nat.le_of_ble_eq_true rfl⟩) 0 rfl rfl rfl hl.1 rfl (Nat.le_of_ble_eq_true rfl) dX11_readsRest_6 ⟨Nat.zero_le _, Nat.zero_le _⟩ (fun rv ws2 hPo H locs hw => ?_)
    obtain ⟨rfl, u10_j0, u10_s, rfl⟩ := hPo
    refine lv_tope (y := rdN byt tpd (wdE byt tpd x0) 5) (rfl) ?_
    refine lv_istore_n (lv' := [(2, .int (rdN byt tpd (wdE byt tpd x0) 5)), (0, .ref oh), (1, .int 13)]) hx hb dX11_readsRest_9 rfl hl (by decide) rfl (fun ls hl => ?_)
    refine lv_iload_n hx hb dX11_readsRest_10 rfl (lv_at hl 0 rfl) ?_
    refine lv_if_lt (tgt := 23) hx hb dX11_readsRest_11 (by decide) (fun _ => ?_) (fun q => absurd (Int32.not_le.mp c_2) q)
    refine lv_iconst (v := 0) hx hb dX11_readsRest_23 (by decide) ?_
    exact rE_z hf hr hlk hw (rfl) ⟨congrArg some (by simp only [roF, if_neg c_2]), u10_j0, (mR qstp qlaws qz qcnt qfogs qarms qkinds qfaiths qplaces qmoved), ⟨by simp only [f_X7_readRoster_x, if_neg c_2]; exact u10_s, fun h => absurd (show (roF byt tpd x0) = 0 by simp only [roF, if_neg c_2]) h⟩, by simp only [f_X7_readRoster_x, if_neg c_2]⟩ (show ([oh, os, ord, otp, olt] : List Nat) = [oh, os, ord, otp, olt] from rfl) dX11_readsRest_24
abbrev rmX11_readsLaw0 : Room := { frames := 5, cells := 0, slots := 0, locals := 108 }
set_option maxHeartbeats 4000000 in
set_option maxRecDepth 100000 in
theorem c_X11_readsLaw0 (l : Launch) (g : GG) (oh : Nat) (os : Nat) (ok : Nat) (ol : Nat) (ord : Nat) (odd : Nat) (otp : Nat) (olt : Nat) (orw : Nat) (oso : Nat) (osz : Nat) (oit : Nat) (oho : Nat) (ohe : Nat) (otr : Nat) (stp : Nat) (laws : Nat → Int32) (z : Int32) (cnt : Nat) (fogs : Nat → Int32) (arms : Nat → Int32) (kinds : Nat → Int32) (faiths : Nat → Int32) (places : Nat → Int32) (moved : Nat → Int32) (isk : Int32) (tpd : Nat) (ovl : Int32) (rmn : Nat) (tcd : Nat) (own_ : Int32) (opt : Int32) (byt : Nat → Int32) (x0 : Nat) (qstp : Nat) (qlaws : Nat → Int32) (qz : Int32) (qcnt : Nat) (qfogs : Nat → Int32) (qarms : Nat → Int32) (qkinds : Nat → Int32) (qfaiths : Nat → Int32) (qplaces : Nat → Int32) (qmoved : Nat → Int32) (htz : tpd ≤ 200) (hby : ∀ j, isB (byt j)) (hx0 : x0 ≤ tpd) (hvl : vOk byt tpd x0 ovl) : mtR l g yX11_readsLaw wsX11_readsLaw rmX11_readsLaw0 [.ref oh, .int 1] [cob oh 11 [.ref os, .ref ok, .ref ol, .ref ord, .int isk, .ref odd, .ref otp, .int (nI tpd), .ref olt, .int (nI (wdE byt tpd x0)), .int (nI (wdS byt tpd x0)), .int (tkF byt tpd x0), .int ovl, .ref orw, .int (nI rmn), .ref oso, .ref osz, .ref oit, .ref oho, .ref ohe, .ref otr, .int (nI tcd), .int own_, .int opt], cin g os 51 (mR stp laws z cnt fogs arms kinds faiths places moved), cin g ord 51 (mR qstp qlaws qz qcnt qfogs qarms qkinds qfaiths qplaces qmoved), cin g otp 200 (ubT byt), cch g olt 120 mlet] (fun rv W => rv = (some (.int (lwF byt tpd x0 0))) ∧ ∃ (j0 : Int32) (j1 : Nat → Int32), (vOk byt tpd (f_X7_readLaw_x tpd byt x0 0) j0 ∧ (¬ (lwF byt tpd x0 0) = 0 → j1 = mR qstp (upd qlaws 0 (rdN byt tpd (wdE byt tpd x0) 9)) qz qcnt qfogs qarms qkinds qfaiths qplaces qmoved)) ∧ W = [cob oh 11 [.ref os, .ref ok, .ref ol, .ref ord, .int isk, .ref odd, .ref otp, .int (nI tpd), .ref olt, .int (nI (wdE byt tpd (f_X7_readLaw_x tpd byt x0 0))), .int (nI (wdS byt tpd (f_X7_readLaw_x tpd byt x0 0))), .int (tkF byt tpd (f_X7_readLaw_x tpd byt x0 0)), .int j0, .ref orw, .int (nI rmn), .ref oso, .ref osz, .ref oit, .ref oho, .ref ohe, .ref otr, .int (nI tcd), .int own_, .int opt], cin g os 51 (mR stp laws z cnt fogs arms kinds faiths places moved), cin g ord 51 j1, cin g otp 200 (ubT byt), cch g olt 120 mlet]) := by
  refine mtR.of (cc := cX11_readsLaw) (nL := 3) (ret := (some .boolean)) (own := RX11) (by decide +kernel) rfl rfl (Nat.le_of_ble_eq_true rfl) (fun p e s m below meth c hf hr hlk _ hk hst hw ls hl => ?_)
  have hx := hf.1
  have hb := hf.2.1
  have hts := hf.2.2.2.2
  have hl : lv_has ls 3 [(0, .ref oh), (1, .int 1)] := hl
  have h1 := wdE_b byt htz hx0
  have h2 := wdE_b byt htz h1.2
  have h3 := wdE_b byt htz h2.2
  have h4 := wdE_b byt htz h3.2
  have h5 := wdE_b byt htz h4.2
  have h6 := wdE_b byt htz h5.2
  have hinX11 : ∀ w ∈ u_ws RX11 TX11 24, w ∈ wsX11_readsLaw := fun w h => List.mem_cons_of_mem _ (List.mem_append_right _ h)
  have w_0 : Cond.fieldLink RX11 19 "LightManModel" "read" "[I" ∈ wsX11_readsLaw := List.mem_of_getElem? (i := 1) rfl
  refine lv_aload_n hx hb dX11_readsLaw_0 rfl (lv_at hl 0 rfl) ?_
  refine mcVF hf hk hst hw (c_X11_next l g oh os ok ol ord odd otp olt orw oso osz oit oho ohe otr stp laws z cnt fogs arms kinds faiths places moved isk tpd (nI (wdS byt tpd x0)) (tkF byt tpd x0) ovl rmn tcd own_ opt (mR qstp qlaws qz qcnt qfogs qarms qkinds qfaiths qplaces qmoved) byt (wdE byt tpd x0) (by omega) (by assumption) (by omega)) (cwV 0 hts gX11_readsLaw_X11_next rfl rfl rfl hdV_X11_next ⟨Nat.le_of_ble_eq_true rfl, Nat.le_of_ble_eq_true rfl⟩) 0 rfl rfl rfl hl.1 rfl (Nat.le_of_ble_eq_true rfl) dX11_readsLaw_1 ⟨Nat.zero_le _, Nat.zero_le _⟩ (fun rv ws2 hPo H locs hw => ?_)
  obtain ⟨rfl, u1_j0, u1_s, rfl⟩ := hPo
  refine lv_aload_n hx hb dX11_readsLaw_4 rfl (lv_at hl 0 rfl) ?_
  refine lv_iload_n hx hb dX11_readsLaw_5 rfl (lv_at hl 1 rfl) ?_
  refine lv_iconst (v := 1) hx hb dX11_readsLaw_6 (by decide) ?_
  refine lv_icmp_ne (tgt := 15) hx hb dX11_readsLaw_7 (by decide) (fun q => absurd (by decide) q) (fun _ => ?_)
  refine lv_bipush (v := 9) hx hb dX11_readsLaw_10 (by decide) ?_
  refine lv_goto (tgt := 17) hx hb dX11_readsLaw_12 (by decide) ?_
  by_cases c_2 : 0 ≤ (rdN byt tpd (wdE byt tpd x0) 9)
  · refine mcVF hf hk hst hw (c_X11_takesNumberY l g oh os ok ol ord odd otp olt orw oso osz oit oho ohe otr stp laws z cnt fogs arms kinds faiths places moved isk tpd u1_j0 rmn tcd own_ opt (mR qstp qlaws qz qcnt qfogs qarms qkinds qfaiths qplaces qmoved) byt (wdE byt tpd x0) 9 (by omega) (by assumption) (by omega) (u1_s) (c_2)) (cwV 1 hts gX11_readsLaw_X11_takesNumber rfl rfl rfl hdV_X11_takesNumber ⟨Nat.le_of_ble_eq_true rfl, Nat.le_of_ble_eq_true rfl⟩) 0 rfl rfl rfl hl.1 rfl (Nat.le_of_ble_eq_true rfl) dX11_readsLaw_17 ⟨Nat.zero_le _, Nat.zero_le _⟩ (fun rv ws2 hPo H locs hw => ?_)
    obtain ⟨rfl, u3_j0, u3_s, rfl⟩ := hPo
    refine lv_istore_n (lv' := [(2, .int (rdN byt tpd (wdE byt tpd x0) 9)), (0, .ref oh), (1, .int 1)]) hx hb dX11_readsLaw_20 rfl hl (by decide) rfl (fun ls hl => ?_)
    refine lv_aload_n hx hb dX11_readsLaw_21 rfl (lv_at hl 1 rfl) ?_
    refine rg hf hk hw hinX11 0 rfl rfl 3 (by decide) w_0 rfl dX11_readsLaw_22 ?_
    refine lv_iload_n hx hb dX11_readsLaw_25 rfl (lv_at hl 2 rfl) ?_
    refine lv_iload_n hx hb dX11_readsLaw_26 rfl (lv_at hl 0 rfl) ?_
    refine rse hf hk hw 2 rfl (j := 1) (vp_in_nI (n := 1) (by omega) (by omega)) (rfl) (mU_law (r := 0) (by omega)) dX11_readsLaw_27 (W' := [cob oh 11 [.ref os, .ref ok, .ref ol, .ref ord, .int isk, .ref odd, .ref otp, .int (nI tpd), .ref olt, .int (nI (wdE byt tpd (wdE byt tpd (wdE byt tpd x0)))), .int (nI (wdS byt tpd (wdE byt tpd (wdE byt tpd x0)))), .int (tkF byt tpd (wdE byt tpd (wdE byt tpd x0))), .int u3_j0, .ref orw, .int (nI rmn), .ref oso, .ref osz, .ref oit, .ref oho, .ref ohe, .ref otr, .int (nI tcd), .int own_, .int opt], cin g os 51 (mR stp laws z cnt fogs arms kinds faiths places moved), cin g ord 51 (mR qstp (upd qlaws 0 (rdN byt tpd (wdE byt tpd x0) 9)) qz qcnt qfogs qarms qkinds qfaiths qplaces qmoved), cin g otp 200 (ubT byt), cch g olt 120 mlet]) rfl (fun H locs hw => ?_)
    refine lv_iload_n hx hb dX11_readsLaw_28 rfl (lv_at hl 0 rfl) ?_
    refine lv_if_lt (tgt := 36) hx hb dX11_readsLaw_29 (by decide) (fun q => absurd q (Int32.not_lt.mpr c_2)) (fun _ => ?_)
    refine lv_iconst (v := 1) hx hb dX11_readsLaw_32 (by decide) ?_
    refine lv_goto (tgt := 37) hx hb dX11_readsLaw_33 (by decide) ?_
    exact rE_z hf hr hlk hw (rfl) ⟨congrArg some (by unfold lwF; rw [if_pos (show 0 ≤ rdN byt tpd (wdE byt tpd x0) (tq_most 0) from c_2)]), u3_j0, (mR qstp (upd qlaws 0 (rdN byt tpd (wdE byt tpd x0) 9)) qz qcnt qfogs qarms qkinds qfaiths qplaces qmoved), ⟨by unfold f_X7_readLaw_x; rw [if_pos (show 0 ≤ rdN byt tpd (wdE byt tpd x0) (tq_most 0) from c_2)]; exact u3_s, fun _ => rfl⟩, by unfold f_X7_readLaw_x; rw [if_pos (show 0 ≤ rdN byt tpd (wdE byt tpd x0) (tq_most 0) from c_2)]⟩ (show ([oh, os, ord, otp, olt] : List Nat) = [oh, os, ord, otp, olt] from rfl) dX11_readsLaw_37
  · refine mcVF hf hk hst hw (c_X11_takesNumberN l g oh os ok ol ord odd otp olt orw oso osz oit oho ohe otr stp laws z cnt fogs arms kinds faiths places moved isk tpd u1_j0 rmn tcd own_ opt (mR qstp qlaws qz qcnt qfogs qarms qkinds qfaiths qplaces qmoved) byt (wdE byt tpd x0) 9 (by omega) (by assumption) (by omega) (u1_s) (c_2)) (cwV 1 hts gX11_readsLaw_X11_takesNumber rfl rfl rfl hdV_X11_takesNumber ⟨Nat.le_of_ble_eq_true rfl, Nat.le_of_ble_eq_true rfl⟩) 0 rfl rfl rfl hl.1 rfl (Nat.le_of_ble_eq_true rfl) dX11_readsLaw_17 ⟨Nat.zero_le _, Nat.zero_le _⟩ (fun rv ws2 hPo H locs hw => ?_)
    obtain ⟨rfl, u4_j0, u4_s, rfl⟩ := hPo
    refine lv_istore_n (lv' := [(2, .int (rdN byt tpd (wdE byt tpd x0) 9)), (0, .ref oh), (1, .int 1)]) hx hb dX11_readsLaw_20 rfl hl (by decide) rfl (fun ls hl => ?_)
    refine lv_aload_n hx hb dX11_readsLaw_21 rfl (lv_at hl 1 rfl) ?_
    refine rg hf hk hw hinX11 0 rfl rfl 3 (by decide) w_0 rfl dX11_readsLaw_22 ?_
    refine lv_iload_n hx hb dX11_readsLaw_25 rfl (lv_at hl 2 rfl) ?_
    refine lv_iload_n hx hb dX11_readsLaw_26 rfl (lv_at hl 0 rfl) ?_
    refine rse hf hk hw 2 rfl (j := 1) (vp_in_nI (n := 1) (by omega) (by omega)) (rfl) (mU_law (r := 0) (by omega)) dX11_readsLaw_27 (W' := [cob oh 11 [.ref os, .ref ok, .ref ol, .ref ord, .int isk, .ref odd, .ref otp, .int (nI tpd), .ref olt, .int (nI (wdE byt tpd (wdE byt tpd x0))), .int (nI (wdS byt tpd (wdE byt tpd x0))), .int (tkF byt tpd (wdE byt tpd x0)), .int u4_j0, .ref orw, .int (nI rmn), .ref oso, .ref osz, .ref oit, .ref oho, .ref ohe, .ref otr, .int (nI tcd), .int own_, .int opt], cin g os 51 (mR stp laws z cnt fogs arms kinds faiths places moved), cin g ord 51 (mR qstp (upd qlaws 0 (rdN byt tpd (wdE byt tpd x0) 9)) qz qcnt qfogs qarms qkinds qfaiths qplaces qmoved), cin g otp 200 (ubT byt), cch g olt 120 mlet]) rfl (fun H locs hw => ?_)
    refine lv_iload_n hx hb dX11_readsLaw_28 rfl (lv_at hl 0 rfl) ?_
    refine lv_if_lt (tgt := 36) hx hb dX11_readsLaw_29 (by decide) (fun _ => ?_) (fun q => absurd (Int32.not_le.mp c_2) q)
    refine lv_iconst (v := 0) hx hb dX11_readsLaw_36 (by decide) ?_
    exact rE_z hf hr hlk hw (rfl) ⟨congrArg some (by unfold lwF; rw [if_neg (show ¬ 0 ≤ rdN byt tpd (wdE byt tpd x0) (tq_most 0) from c_2)]), u4_j0, (mR qstp (upd qlaws 0 (rdN byt tpd (wdE byt tpd x0) 9)) qz qcnt qfogs qarms qkinds qfaiths qplaces qmoved), ⟨by unfold f_X7_readLaw_x; rw [if_neg (show ¬ 0 ≤ rdN byt tpd (wdE byt tpd x0) (tq_most 0) from c_2)]; exact u4_s, fun h => absurd (show (lwF byt tpd x0 0) = 0 by unfold lwF; rw [if_neg (show ¬ 0 ≤ rdN byt tpd (wdE byt tpd x0) (tq_most 0) from c_2)]) h⟩, by unfold f_X7_readLaw_x; rw [if_neg (show ¬ 0 ≤ rdN byt tpd (wdE byt tpd x0) (tq_most 0) from c_2)]⟩ (show ([oh, os, ord, otp, olt] : List Nat) = [oh, os, ord, otp, olt] from rfl) dX11_readsLaw_37
abbrev rmX11_readsLaw1 : Room := { frames := 5, cells := 0, slots := 0, locals := 108 }
set_option maxHeartbeats 4000000 in
set_option maxRecDepth 100000 in
theorem c_X11_readsLaw1 (l : Launch) (g : GG) (oh : Nat) (os : Nat) (ok : Nat) (ol : Nat) (ord : Nat) (odd : Nat) (otp : Nat) (olt : Nat) (orw : Nat) (oso : Nat) (osz : Nat) (oit : Nat) (oho : Nat) (ohe : Nat) (otr : Nat) (stp : Nat) (laws : Nat → Int32) (z : Int32) (cnt : Nat) (fogs : Nat → Int32) (arms : Nat → Int32) (kinds : Nat → Int32) (faiths : Nat → Int32) (places : Nat → Int32) (moved : Nat → Int32) (isk : Int32) (tpd : Nat) (ovl : Int32) (rmn : Nat) (tcd : Nat) (own_ : Int32) (opt : Int32) (byt : Nat → Int32) (x0 : Nat) (qstp : Nat) (qlaws : Nat → Int32) (qz : Int32) (qcnt : Nat) (qfogs : Nat → Int32) (qarms : Nat → Int32) (qkinds : Nat → Int32) (qfaiths : Nat → Int32) (qplaces : Nat → Int32) (qmoved : Nat → Int32) (htz : tpd ≤ 200) (hby : ∀ j, isB (byt j)) (hx0 : x0 ≤ tpd) (hvl : vOk byt tpd x0 ovl) : mtR l g yX11_readsLaw wsX11_readsLaw rmX11_readsLaw1 [.ref oh, .int 2] [cob oh 11 [.ref os, .ref ok, .ref ol, .ref ord, .int isk, .ref odd, .ref otp, .int (nI tpd), .ref olt, .int (nI (wdE byt tpd x0)), .int (nI (wdS byt tpd x0)), .int (tkF byt tpd x0), .int ovl, .ref orw, .int (nI rmn), .ref oso, .ref osz, .ref oit, .ref oho, .ref ohe, .ref otr, .int (nI tcd), .int own_, .int opt], cin g os 51 (mR stp laws z cnt fogs arms kinds faiths places moved), cin g ord 51 (mR qstp qlaws qz qcnt qfogs qarms qkinds qfaiths qplaces qmoved), cin g otp 200 (ubT byt), cch g olt 120 mlet] (fun rv W => rv = (some (.int (lwF byt tpd x0 1))) ∧ ∃ (j0 : Int32) (j1 : Nat → Int32), (vOk byt tpd (f_X7_readLaw_x tpd byt x0 1) j0 ∧ (¬ (lwF byt tpd x0 1) = 0 → j1 = mR qstp (upd qlaws 1 (rdN byt tpd (wdE byt tpd x0) 99)) qz qcnt qfogs qarms qkinds qfaiths qplaces qmoved)) ∧ W = [cob oh 11 [.ref os, .ref ok, .ref ol, .ref ord, .int isk, .ref odd, .ref otp, .int (nI tpd), .ref olt, .int (nI (wdE byt tpd (f_X7_readLaw_x tpd byt x0 1))), .int (nI (wdS byt tpd (f_X7_readLaw_x tpd byt x0 1))), .int (tkF byt tpd (f_X7_readLaw_x tpd byt x0 1)), .int j0, .ref orw, .int (nI rmn), .ref oso, .ref osz, .ref oit, .ref oho, .ref ohe, .ref otr, .int (nI tcd), .int own_, .int opt], cin g os 51 (mR stp laws z cnt fogs arms kinds faiths places moved), cin g ord 51 j1, cin g otp 200 (ubT byt), cch g olt 120 mlet]) := by
  refine mtR.of (cc := cX11_readsLaw) (nL := 3) (ret := (some .boolean)) (own := RX11) (by decide +kernel) rfl rfl (Nat.le_of_ble_eq_true rfl) (fun p e s m below meth c hf hr hlk _ hk hst hw ls hl => ?_)
  have hx := hf.1
  have hb := hf.2.1
  have hts := hf.2.2.2.2
  have hl : lv_has ls 3 [(0, .ref oh), (1, .int 2)] := hl
  have h1 := wdE_b byt htz hx0
  have h2 := wdE_b byt htz h1.2
  have h3 := wdE_b byt htz h2.2
  have h4 := wdE_b byt htz h3.2
  have h5 := wdE_b byt htz h4.2
  have h6 := wdE_b byt htz h5.2
  have hinX11 : ∀ w ∈ u_ws RX11 TX11 24, w ∈ wsX11_readsLaw := fun w h => List.mem_cons_of_mem _ (List.mem_append_right _ h)
  have w_0 : Cond.fieldLink RX11 19 "LightManModel" "read" "[I" ∈ wsX11_readsLaw := List.mem_of_getElem? (i := 1) rfl
  refine lv_aload_n hx hb dX11_readsLaw_0 rfl (lv_at hl 0 rfl) ?_
  refine mcVF hf hk hst hw (c_X11_next l g oh os ok ol ord odd otp olt orw oso osz oit oho ohe otr stp laws z cnt fogs arms kinds faiths places moved isk tpd (nI (wdS byt tpd x0)) (tkF byt tpd x0) ovl rmn tcd own_ opt (mR qstp qlaws qz qcnt qfogs qarms qkinds qfaiths qplaces qmoved) byt (wdE byt tpd x0) (by omega) (by assumption) (by omega)) (cwV 0 hts gX11_readsLaw_X11_next rfl rfl rfl hdV_X11_next ⟨Nat.le_of_ble_eq_true rfl, Nat.le_of_ble_eq_true rfl⟩) 0 rfl rfl rfl hl.1 rfl (Nat.le_of_ble_eq_true rfl) dX11_readsLaw_1 ⟨Nat.zero_le _, Nat.zero_le _⟩ (fun rv ws2 hPo H locs hw => ?_)
  obtain ⟨rfl, u1_j0, u1_s, rfl⟩ := hPo
  refine lv_aload_n hx hb dX11_readsLaw_4 rfl (lv_at hl 0 rfl) ?_
  refine lv_iload_n hx hb dX11_readsLaw_5 rfl (lv_at hl 1 rfl) ?_
  refine lv_iconst (v := 1) hx hb dX11_readsLaw_6 (by decide) ?_
  refine lv_icmp_ne (tgt := 15) hx hb dX11_readsLaw_7 (by decide) (fun _ => ?_) (fun q => absurd q (by decide))
  refine lv_bipush (v := 99) hx hb dX11_readsLaw_15 (by decide) ?_
  by_cases c_2 : 0 ≤ (rdN byt tpd (wdE byt tpd x0) 99)
  · refine mcVF hf hk hst hw (c_X11_takesNumberY l g oh os ok ol ord odd otp olt orw oso osz oit oho ohe otr stp laws z cnt fogs arms kinds faiths places moved isk tpd u1_j0 rmn tcd own_ opt (mR qstp qlaws qz qcnt qfogs qarms qkinds qfaiths qplaces qmoved) byt (wdE byt tpd x0) 99 (by omega) (by assumption) (by omega) (u1_s) (c_2)) (cwV 1 hts gX11_readsLaw_X11_takesNumber rfl rfl rfl hdV_X11_takesNumber ⟨Nat.le_of_ble_eq_true rfl, Nat.le_of_ble_eq_true rfl⟩) 0 rfl rfl rfl hl.1 rfl (Nat.le_of_ble_eq_true rfl) dX11_readsLaw_17 ⟨Nat.zero_le _, Nat.zero_le _⟩ (fun rv ws2 hPo H locs hw => ?_)
    obtain ⟨rfl, u3_j0, u3_s, rfl⟩ := hPo
    refine lv_istore_n (lv' := [(2, .int (rdN byt tpd (wdE byt tpd x0) 99)), (0, .ref oh), (1, .int 2)]) hx hb dX11_readsLaw_20 rfl hl (by decide) rfl (fun ls hl => ?_)
    refine lv_aload_n hx hb dX11_readsLaw_21 rfl (lv_at hl 1 rfl) ?_
    refine rg hf hk hw hinX11 0 rfl rfl 3 (by decide) w_0 rfl dX11_readsLaw_22 ?_
    refine lv_iload_n hx hb dX11_readsLaw_25 rfl (lv_at hl 2 rfl) ?_
    refine lv_iload_n hx hb dX11_readsLaw_26 rfl (lv_at hl 0 rfl) ?_
    refine rse hf hk hw 2 rfl (j := 2) (vp_in_nI (n := 2) (by omega) (by omega)) (rfl) (mU_law (r := 1) (by omega)) dX11_readsLaw_27 (W' := [cob oh 11 [.ref os, .ref ok, .ref ol, .ref ord, .int isk, .ref odd, .ref otp, .int (nI tpd), .ref olt, .int (nI (wdE byt tpd (wdE byt tpd (wdE byt tpd x0)))), .int (nI (wdS byt tpd (wdE byt tpd (wdE byt tpd x0)))), .int (tkF byt tpd (wdE byt tpd (wdE byt tpd x0))), .int u3_j0, .ref orw, .int (nI rmn), .ref oso, .ref osz, .ref oit, .ref oho, .ref ohe, .ref otr, .int (nI tcd), .int own_, .int opt], cin g os 51 (mR stp laws z cnt fogs arms kinds faiths places moved), cin g ord 51 (mR qstp (upd qlaws 1 (rdN byt tpd (wdE byt tpd x0) 99)) qz qcnt qfogs qarms qkinds qfaiths qplaces qmoved), cin g otp 200 (ubT byt), cch g olt 120 mlet]) rfl (fun H locs hw => ?_)
    refine lv_iload_n hx hb dX11_readsLaw_28 rfl (lv_at hl 0 rfl) ?_
    refine lv_if_lt (tgt := 36) hx hb dX11_readsLaw_29 (by decide) (fun q => absurd q (Int32.not_lt.mpr c_2)) (fun _ => ?_)
    refine lv_iconst (v := 1) hx hb dX11_readsLaw_32 (by decide) ?_
    refine lv_goto (tgt := 37) hx hb dX11_readsLaw_33 (by decide) ?_
    exact rE_z hf hr hlk hw (rfl) ⟨congrArg some (by unfold lwF; rw [if_pos (show 0 ≤ rdN byt tpd (wdE byt tpd x0) (tq_most 1) from c_2)]), u3_j0, (mR qstp (upd qlaws 1 (rdN byt tpd (wdE byt tpd x0) 99)) qz qcnt qfogs qarms qkinds qfaiths qplaces qmoved), ⟨by unfold f_X7_readLaw_x; rw [if_pos (show 0 ≤ rdN byt tpd (wdE byt tpd x0) (tq_most 1) from c_2)]; exact u3_s, fun _ => rfl⟩, by unfold f_X7_readLaw_x; rw [if_pos (show 0 ≤ rdN byt tpd (wdE byt tpd x0) (tq_most 1) from c_2)]⟩ (show ([oh, os, ord, otp, olt] : List Nat) = [oh, os, ord, otp, olt] from rfl) dX11_readsLaw_37
  · refine mcVF hf hk hst hw (c_X11_takesNumberN l g oh os ok ol ord odd otp olt orw oso osz oit oho ohe otr stp laws z cnt fogs arms kinds faiths places moved isk tpd u1_j0 rmn tcd own_ opt (mR qstp qlaws qz qcnt qfogs qarms qkinds qfaiths qplaces qmoved) byt (wdE byt tpd x0) 99 (by omega) (by assumption) (by omega) (u1_s) (c_2)) (cwV 1 hts gX11_readsLaw_X11_takesNumber rfl rfl rfl hdV_X11_takesNumber ⟨Nat.le_of_ble_eq_true rfl, Nat.le_of_ble_eq_true rfl⟩) 0 rfl rfl rfl hl.1 rfl (Nat.le_of_ble_eq_true rfl) dX11_readsLaw_17 ⟨Nat.zero_le _, Nat.zero_le _⟩ (fun rv ws2 hPo H locs hw => ?_)
    obtain ⟨rfl, u4_j0, u4_s, rfl⟩ := hPo
    refine lv_istore_n (lv' := [(2, .int (rdN byt tpd (wdE byt tpd x0) 99)), (0, .ref oh), (1, .int 2)]) hx hb dX11_readsLaw_20 rfl hl (by decide) rfl (fun ls hl => ?_)
    refine lv_aload_n hx hb dX11_readsLaw_21 rfl (lv_at hl 1 rfl) ?_
    refine rg hf hk hw hinX11 0 rfl rfl 3 (by decide) w_0 rfl dX11_readsLaw_22 ?_
    refine lv_iload_n hx hb dX11_readsLaw_25 rfl (lv_at hl 2 rfl) ?_
    refine lv_iload_n hx hb dX11_readsLaw_26 rfl (lv_at hl 0 rfl) ?_
    refine rse hf hk hw 2 rfl (j := 2) (vp_in_nI (n := 2) (by omega) (by omega)) (rfl) (mU_law (r := 1) (by omega)) dX11_readsLaw_27 (W' := [cob oh 11 [.ref os, .ref ok, .ref ol, .ref ord, .int isk, .ref odd, .ref otp, .int (nI tpd), .ref olt, .int (nI (wdE byt tpd (wdE byt tpd x0))), .int (nI (wdS byt tpd (wdE byt tpd x0))), .int (tkF byt tpd (wdE byt tpd x0)), .int u4_j0, .ref orw, .int (nI rmn), .ref oso, .ref osz, .ref oit, .ref oho, .ref ohe, .ref otr, .int (nI tcd), .int own_, .int opt], cin g os 51 (mR stp laws z cnt fogs arms kinds faiths places moved), cin g ord 51 (mR qstp (upd qlaws 1 (rdN byt tpd (wdE byt tpd x0) 99)) qz qcnt qfogs qarms qkinds qfaiths qplaces qmoved), cin g otp 200 (ubT byt), cch g olt 120 mlet]) rfl (fun H locs hw => ?_)
    refine lv_iload_n hx hb dX11_readsLaw_28 rfl (lv_at hl 0 rfl) ?_
    refine lv_if_lt (tgt := 36) hx hb dX11_readsLaw_29 (by decide) (fun _ => ?_) (fun q => absurd (Int32.not_le.mp c_2) q)
    refine lv_iconst (v := 0) hx hb dX11_readsLaw_36 (by decide) ?_
    exact rE_z hf hr hlk hw (rfl) ⟨congrArg some (by unfold lwF; rw [if_neg (show ¬ 0 ≤ rdN byt tpd (wdE byt tpd x0) (tq_most 1) from c_2)]), u4_j0, (mR qstp (upd qlaws 1 (rdN byt tpd (wdE byt tpd x0) 99)) qz qcnt qfogs qarms qkinds qfaiths qplaces qmoved), ⟨by unfold f_X7_readLaw_x; rw [if_neg (show ¬ 0 ≤ rdN byt tpd (wdE byt tpd x0) (tq_most 1) from c_2)]; exact u4_s, fun h => absurd (show (lwF byt tpd x0 1) = 0 by unfold lwF; rw [if_neg (show ¬ 0 ≤ rdN byt tpd (wdE byt tpd x0) (tq_most 1) from c_2)]) h⟩, by unfold f_X7_readLaw_x; rw [if_neg (show ¬ 0 ≤ rdN byt tpd (wdE byt tpd x0) (tq_most 1) from c_2)]⟩ (show ([oh, os, ord, otp, olt] : List Nat) = [oh, os, ord, otp, olt] from rfl) dX11_readsLaw_37
abbrev rmX11_readsLaw2 : Room := { frames := 5, cells := 0, slots := 0, locals := 108 }
set_option maxHeartbeats 4000000 in
set_option maxRecDepth 100000 in
theorem c_X11_readsLaw2 (l : Launch) (g : GG) (oh : Nat) (os : Nat) (ok : Nat) (ol : Nat) (ord : Nat) (odd : Nat) (otp : Nat) (olt : Nat) (orw : Nat) (oso : Nat) (osz : Nat) (oit : Nat) (oho : Nat) (ohe : Nat) (otr : Nat) (stp : Nat) (laws : Nat → Int32) (z : Int32) (cnt : Nat) (fogs : Nat → Int32) (arms : Nat → Int32) (kinds : Nat → Int32) (faiths : Nat → Int32) (places : Nat → Int32) (moved : Nat → Int32) (isk : Int32) (tpd : Nat) (ovl : Int32) (rmn : Nat) (tcd : Nat) (own_ : Int32) (opt : Int32) (byt : Nat → Int32) (x0 : Nat) (qstp : Nat) (qlaws : Nat → Int32) (qz : Int32) (qcnt : Nat) (qfogs : Nat → Int32) (qarms : Nat → Int32) (qkinds : Nat → Int32) (qfaiths : Nat → Int32) (qplaces : Nat → Int32) (qmoved : Nat → Int32) (htz : tpd ≤ 200) (hby : ∀ j, isB (byt j)) (hx0 : x0 ≤ tpd) (hvl : vOk byt tpd x0 ovl) : mtR l g yX11_readsLaw wsX11_readsLaw rmX11_readsLaw2 [.ref oh, .int 3] [cob oh 11 [.ref os, .ref ok, .ref ol, .ref ord, .int isk, .ref odd, .ref otp, .int (nI tpd), .ref olt, .int (nI (wdE byt tpd x0)), .int (nI (wdS byt tpd x0)), .int (tkF byt tpd x0), .int ovl, .ref orw, .int (nI rmn), .ref oso, .ref osz, .ref oit, .ref oho, .ref ohe, .ref otr, .int (nI tcd), .int own_, .int opt], cin g os 51 (mR stp laws z cnt fogs arms kinds faiths places moved), cin g ord 51 (mR qstp qlaws qz qcnt qfogs qarms qkinds qfaiths qplaces qmoved), cin g otp 200 (ubT byt), cch g olt 120 mlet] (fun rv W => rv = (some (.int (lwF byt tpd x0 2))) ∧ ∃ (j0 : Int32) (j1 : Nat → Int32), (vOk byt tpd (f_X7_readLaw_x tpd byt x0 2) j0 ∧ (¬ (lwF byt tpd x0 2) = 0 → j1 = mR qstp (upd qlaws 2 (rdN byt tpd (wdE byt tpd x0) 99)) qz qcnt qfogs qarms qkinds qfaiths qplaces qmoved)) ∧ W = [cob oh 11 [.ref os, .ref ok, .ref ol, .ref ord, .int isk, .ref odd, .ref otp, .int (nI tpd), .ref olt, .int (nI (wdE byt tpd (f_X7_readLaw_x tpd byt x0 2))), .int (nI (wdS byt tpd (f_X7_readLaw_x tpd byt x0 2))), .int (tkF byt tpd (f_X7_readLaw_x tpd byt x0 2)), .int j0, .ref orw, .int (nI rmn), .ref oso, .ref osz, .ref oit, .ref oho, .ref ohe, .ref otr, .int (nI tcd), .int own_, .int opt], cin g os 51 (mR stp laws z cnt fogs arms kinds faiths places moved), cin g ord 51 j1, cin g otp 200 (ubT byt), cch g olt 120 mlet]) := by
  refine mtR.of (cc := cX11_readsLaw) (nL := 3) (ret := (some .boolean)) (own := RX11) (by decide +kernel) rfl rfl (Nat.le_of_ble_eq_true rfl) (fun p e s m below meth c hf hr hlk _ hk hst hw ls hl => ?_)
  have hx := hf.1
  have hb := hf.2.1
  have hts := hf.2.2.2.2
  have hl : lv_has ls 3 [(0, .ref oh), (1, .int 3)] := hl
  have h1 := wdE_b byt htz hx0
  have h2 := wdE_b byt htz h1.2
  have h3 := wdE_b byt htz h2.2
  have h4 := wdE_b byt htz h3.2
  have h5 := wdE_b byt htz h4.2
  have h6 := wdE_b byt htz h5.2
  have hinX11 : ∀ w ∈ u_ws RX11 TX11 24, w ∈ wsX11_readsLaw := fun w h => List.mem_cons_of_mem _ (List.mem_append_right _ h)
  have w_0 : Cond.fieldLink RX11 19 "LightManModel" "read" "[I" ∈ wsX11_readsLaw := List.mem_of_getElem? (i := 1) rfl
  refine lv_aload_n hx hb dX11_readsLaw_0 rfl (lv_at hl 0 rfl) ?_
  refine mcVF hf hk hst hw (c_X11_next l g oh os ok ol ord odd otp olt orw oso osz oit oho ohe otr stp laws z cnt fogs arms kinds faiths places moved isk tpd (nI (wdS byt tpd x0)) (tkF byt tpd x0) ovl rmn tcd own_ opt (mR qstp qlaws qz qcnt qfogs qarms qkinds qfaiths qplaces qmoved) byt (wdE byt tpd x0) (by omega) (by assumption) (by omega)) (cwV 0 hts gX11_readsLaw_X11_next rfl rfl rfl hdV_X11_next ⟨Nat.le_of_ble_eq_true rfl, Nat.le_of_ble_eq_true rfl⟩) 0 rfl rfl rfl hl.1 rfl (Nat.le_of_ble_eq_true rfl) dX11_readsLaw_1 ⟨Nat.zero_le _, Nat.zero_le _⟩ (fun rv ws2 hPo H locs hw => ?_)
  obtain ⟨rfl, u1_j0, u1_s, rfl⟩ := hPo
  refine lv_aload_n hx hb dX11_readsLaw_4 rfl (lv_at hl 0 rfl) ?_
  refine lv_iload_n hx hb dX11_readsLaw_5 rfl (lv_at hl 1 rfl) ?_
  refine lv_iconst (v := 1) hx hb dX11_readsLaw_6 (by decide) ?_
  refine lv_icmp_ne (tgt := 15) hx hb dX11_readsLaw_7 (by decide) (fun _ => ?_) (fun q => absurd q (by decide))
  refine lv_bipush (v := 99) hx hb dX11_readsLaw_15 (by decide) ?_
  by_cases c_2 : 0 ≤ (rdN byt tpd (wdE byt tpd x0) 99)
  · refine mcVF hf hk hst hw (c_X11_takesNumberY l g oh os ok ol ord odd otp olt orw oso osz oit oho ohe otr stp laws z cnt fogs arms kinds faiths places moved isk tpd u1_j0 rmn tcd own_ opt (mR qstp qlaws qz qcnt qfogs qarms qkinds qfaiths qplaces qmoved) byt (wdE byt tpd x0) 99 (by omega) (by assumption) (by omega) (u1_s) (c_2)) (cwV 1 hts gX11_readsLaw_X11_takesNumber rfl rfl rfl hdV_X11_takesNumber ⟨Nat.le_of_ble_eq_true rfl, Nat.le_of_ble_eq_true rfl⟩) 0 rfl rfl rfl hl.1 rfl (Nat.le_of_ble_eq_true rfl) dX11_readsLaw_17 ⟨Nat.zero_le _, Nat.zero_le _⟩ (fun rv ws2 hPo H locs hw => ?_)
    obtain ⟨rfl, u3_j0, u3_s, rfl⟩ := hPo
    refine lv_istore_n (lv' := [(2, .int (rdN byt tpd (wdE byt tpd x0) 99)), (0, .ref oh), (1, .int 3)]) hx hb dX11_readsLaw_20 rfl hl (by decide) rfl (fun ls hl => ?_)
    refine lv_aload_n hx hb dX11_readsLaw_21 rfl (lv_at hl 1 rfl) ?_
    refine rg hf hk hw hinX11 0 rfl rfl 3 (by decide) w_0 rfl dX11_readsLaw_22 ?_
    refine lv_iload_n hx hb dX11_readsLaw_25 rfl (lv_at hl 2 rfl) ?_
    refine lv_iload_n hx hb dX11_readsLaw_26 rfl (lv_at hl 0 rfl) ?_
    refine rse hf hk hw 2 rfl (j := 3) (vp_in_nI (n := 3) (by omega) (by omega)) (rfl) (mU_law (r := 2) (by omega)) dX11_readsLaw_27 (W' := [cob oh 11 [.ref os, .ref ok, .ref ol, .ref ord, .int isk, .ref odd, .ref otp, .int (nI tpd), .ref olt, .int (nI (wdE byt tpd (wdE byt tpd (wdE byt tpd x0)))), .int (nI (wdS byt tpd (wdE byt tpd (wdE byt tpd x0)))), .int (tkF byt tpd (wdE byt tpd (wdE byt tpd x0))), .int u3_j0, .ref orw, .int (nI rmn), .ref oso, .ref osz, .ref oit, .ref oho, .ref ohe, .ref otr, .int (nI tcd), .int own_, .int opt], cin g os 51 (mR stp laws z cnt fogs arms kinds faiths places moved), cin g ord 51 (mR qstp (upd qlaws 2 (rdN byt tpd (wdE byt tpd x0) 99)) qz qcnt qfogs qarms qkinds qfaiths qplaces qmoved), cin g otp 200 (ubT byt), cch g olt 120 mlet]) rfl (fun H locs hw => ?_)
    refine lv_iload_n hx hb dX11_readsLaw_28 rfl (lv_at hl 0 rfl) ?_
    refine lv_if_lt (tgt := 36) hx hb dX11_readsLaw_29 (by decide) (fun q => absurd q (Int32.not_lt.mpr c_2)) (fun _ => ?_)
    refine lv_iconst (v := 1) hx hb dX11_readsLaw_32 (by decide) ?_
    refine lv_goto (tgt := 37) hx hb dX11_readsLaw_33 (by decide) ?_
    exact rE_z hf hr hlk hw (rfl) ⟨congrArg some (by unfold lwF; rw [if_pos (show 0 ≤ rdN byt tpd (wdE byt tpd x0) (tq_most 2) from c_2)]), u3_j0, (mR qstp (upd qlaws 2 (rdN byt tpd (wdE byt tpd x0) 99)) qz qcnt qfogs qarms qkinds qfaiths qplaces qmoved), ⟨by unfold f_X7_readLaw_x; rw [if_pos (show 0 ≤ rdN byt tpd (wdE byt tpd x0) (tq_most 2) from c_2)]; exact u3_s, fun _ => rfl⟩, by unfold f_X7_readLaw_x; rw [if_pos (show 0 ≤ rdN byt tpd (wdE byt tpd x0) (tq_most 2) from c_2)]⟩ (show ([oh, os, ord, otp, olt] : List Nat) = [oh, os, ord, otp, olt] from rfl) dX11_readsLaw_37
  · refine mcVF hf hk hst hw (c_X11_takesNumberN l g oh os ok ol ord odd otp olt orw oso osz oit oho ohe otr stp laws z cnt fogs arms kinds faiths places moved isk tpd u1_j0 rmn tcd own_ opt (mR qstp qlaws qz qcnt qfogs qarms qkinds qfaiths qplaces qmoved) byt (wdE byt tpd x0) 99 (by omega) (by assumption) (by omega) (u1_s) (c_2)) (cwV 1 hts gX11_readsLaw_X11_takesNumber rfl rfl rfl hdV_X11_takesNumber ⟨Nat.le_of_ble_eq_true rfl, Nat.le_of_ble_eq_true rfl⟩) 0 rfl rfl rfl hl.1 rfl (Nat.le_of_ble_eq_true rfl) dX11_readsLaw_17 ⟨Nat.zero_le _, Nat.zero_le _⟩ (fun rv ws2 hPo H locs hw => ?_)
    obtain ⟨rfl, u4_j0, u4_s, rfl⟩ := hPo
    refine lv_istore_n (lv' := [(2, .int (rdN byt tpd (wdE byt tpd x0) 99)), (0, .ref oh), (1, .int 3)]) hx hb dX11_readsLaw_20 rfl hl (by decide) rfl (fun ls hl => ?_)
    refine lv_aload_n hx hb dX11_readsLaw_21 rfl (lv_at hl 1 rfl) ?_
    refine rg hf hk hw hinX11 0 rfl rfl 3 (by decide) w_0 rfl dX11_readsLaw_22 ?_
    refine lv_iload_n hx hb dX11_readsLaw_25 rfl (lv_at hl 2 rfl) ?_
    refine lv_iload_n hx hb dX11_readsLaw_26 rfl (lv_at hl 0 rfl) ?_
    refine rse hf hk hw 2 rfl (j := 3) (vp_in_nI (n := 3) (by omega) (by omega)) (rfl) (mU_law (r := 2) (by omega)) dX11_readsLaw_27 (W' := [cob oh 11 [.ref os, .ref ok, .ref ol, .ref ord, .int isk, .ref odd, .ref otp, .int (nI tpd), .ref olt, .int (nI (wdE byt tpd (wdE byt tpd x0))), .int (nI (wdS byt tpd (wdE byt tpd x0))), .int (tkF byt tpd (wdE byt tpd x0)), .int u4_j0, .ref orw, .int (nI rmn), .ref oso, .ref osz, .ref oit, .ref oho, .ref ohe, .ref otr, .int (nI tcd), .int own_, .int opt], cin g os 51 (mR stp laws z cnt fogs arms kinds faiths places moved), cin g ord 51 (mR qstp (upd qlaws 2 (rdN byt tpd (wdE byt tpd x0) 99)) qz qcnt qfogs qarms qkinds qfaiths qplaces qmoved), cin g otp 200 (ubT byt), cch g olt 120 mlet]) rfl (fun H locs hw => ?_)
    refine lv_iload_n hx hb dX11_readsLaw_28 rfl (lv_at hl 0 rfl) ?_
    refine lv_if_lt (tgt := 36) hx hb dX11_readsLaw_29 (by decide) (fun _ => ?_) (fun q => absurd (Int32.not_le.mp c_2) q)
    refine lv_iconst (v := 0) hx hb dX11_readsLaw_36 (by decide) ?_
    exact rE_z hf hr hlk hw (rfl) ⟨congrArg some (by unfold lwF; rw [if_neg (show ¬ 0 ≤ rdN byt tpd (wdE byt tpd x0) (tq_most 2) from c_2)]), u4_j0, (mR qstp (upd qlaws 2 (rdN byt tpd (wdE byt tpd x0) 99)) qz qcnt qfogs qarms qkinds qfaiths qplaces qmoved), ⟨by unfold f_X7_readLaw_x; rw [if_neg (show ¬ 0 ≤ rdN byt tpd (wdE byt tpd x0) (tq_most 2) from c_2)]; exact u4_s, fun h => absurd (show (lwF byt tpd x0 2) = 0 by unfold lwF; rw [if_neg (show ¬ 0 ≤ rdN byt tpd (wdE byt tpd x0) (tq_most 2) from c_2)]) h⟩, by unfold f_X7_readLaw_x; rw [if_neg (show ¬ 0 ≤ rdN byt tpd (wdE byt tpd x0) (tq_most 2) from c_2)]⟩ (show ([oh, os, ord, otp, olt] : List Nat) = [oh, os, ord, otp, olt] from rfl) dX11_readsLaw_37
abbrev rmX11_readsLaw3 : Room := { frames := 5, cells := 0, slots := 0, locals := 108 }
set_option maxHeartbeats 4000000 in
set_option maxRecDepth 100000 in
theorem c_X11_readsLaw3 (l : Launch) (g : GG) (oh : Nat) (os : Nat) (ok : Nat) (ol : Nat) (ord : Nat) (odd : Nat) (otp : Nat) (olt : Nat) (orw : Nat) (oso : Nat) (osz : Nat) (oit : Nat) (oho : Nat) (ohe : Nat) (otr : Nat) (stp : Nat) (laws : Nat → Int32) (z : Int32) (cnt : Nat) (fogs : Nat → Int32) (arms : Nat → Int32) (kinds : Nat → Int32) (faiths : Nat → Int32) (places : Nat → Int32) (moved : Nat → Int32) (isk : Int32) (tpd : Nat) (ovl : Int32) (rmn : Nat) (tcd : Nat) (own_ : Int32) (opt : Int32) (byt : Nat → Int32) (x0 : Nat) (qstp : Nat) (qlaws : Nat → Int32) (qz : Int32) (qcnt : Nat) (qfogs : Nat → Int32) (qarms : Nat → Int32) (qkinds : Nat → Int32) (qfaiths : Nat → Int32) (qplaces : Nat → Int32) (qmoved : Nat → Int32) (htz : tpd ≤ 200) (hby : ∀ j, isB (byt j)) (hx0 : x0 ≤ tpd) (hvl : vOk byt tpd x0 ovl) : mtR l g yX11_readsLaw wsX11_readsLaw rmX11_readsLaw3 [.ref oh, .int 4] [cob oh 11 [.ref os, .ref ok, .ref ol, .ref ord, .int isk, .ref odd, .ref otp, .int (nI tpd), .ref olt, .int (nI (wdE byt tpd x0)), .int (nI (wdS byt tpd x0)), .int (tkF byt tpd x0), .int ovl, .ref orw, .int (nI rmn), .ref oso, .ref osz, .ref oit, .ref oho, .ref ohe, .ref otr, .int (nI tcd), .int own_, .int opt], cin g os 51 (mR stp laws z cnt fogs arms kinds faiths places moved), cin g ord 51 (mR qstp qlaws qz qcnt qfogs qarms qkinds qfaiths qplaces qmoved), cin g otp 200 (ubT byt), cch g olt 120 mlet] (fun rv W => rv = (some (.int (lwF byt tpd x0 3))) ∧ ∃ (j0 : Int32) (j1 : Nat → Int32), (vOk byt tpd (f_X7_readLaw_x tpd byt x0 3) j0 ∧ (¬ (lwF byt tpd x0 3) = 0 → j1 = mR qstp (upd qlaws 3 (rdN byt tpd (wdE byt tpd x0) 99)) qz qcnt qfogs qarms qkinds qfaiths qplaces qmoved)) ∧ W = [cob oh 11 [.ref os, .ref ok, .ref ol, .ref ord, .int isk, .ref odd, .ref otp, .int (nI tpd), .ref olt, .int (nI (wdE byt tpd (f_X7_readLaw_x tpd byt x0 3))), .int (nI (wdS byt tpd (f_X7_readLaw_x tpd byt x0 3))), .int (tkF byt tpd (f_X7_readLaw_x tpd byt x0 3)), .int j0, .ref orw, .int (nI rmn), .ref oso, .ref osz, .ref oit, .ref oho, .ref ohe, .ref otr, .int (nI tcd), .int own_, .int opt], cin g os 51 (mR stp laws z cnt fogs arms kinds faiths places moved), cin g ord 51 j1, cin g otp 200 (ubT byt), cch g olt 120 mlet]) := by
  refine mtR.of (cc := cX11_readsLaw) (nL := 3) (ret := (some .boolean)) (own := RX11) (by decide +kernel) rfl rfl (Nat.le_of_ble_eq_true rfl) (fun p e s m below meth c hf hr hlk _ hk hst hw ls hl => ?_)
  have hx := hf.1
  have hb := hf.2.1
  have hts := hf.2.2.2.2
  have hl : lv_has ls 3 [(0, .ref oh), (1, .int 4)] := hl
  have h1 := wdE_b byt htz hx0
  have h2 := wdE_b byt htz h1.2
  have h3 := wdE_b byt htz h2.2
  have h4 := wdE_b byt htz h3.2
  have h5 := wdE_b byt htz h4.2
  have h6 := wdE_b byt htz h5.2
  have hinX11 : ∀ w ∈ u_ws RX11 TX11 24, w ∈ wsX11_readsLaw := fun w h => List.mem_cons_of_mem _ (List.mem_append_right _ h)
  have w_0 : Cond.fieldLink RX11 19 "LightManModel" "read" "[I" ∈ wsX11_readsLaw := List.mem_of_getElem? (i := 1) rfl
  refine lv_aload_n hx hb dX11_readsLaw_0 rfl (lv_at hl 0 rfl) ?_
  refine mcVF hf hk hst hw (c_X11_next l g oh os ok ol ord odd otp olt orw oso osz oit oho ohe otr stp laws z cnt fogs arms kinds faiths places moved isk tpd (nI (wdS byt tpd x0)) (tkF byt tpd x0) ovl rmn tcd own_ opt (mR qstp qlaws qz qcnt qfogs qarms qkinds qfaiths qplaces qmoved) byt (wdE byt tpd x0) (by omega) (by assumption) (by omega)) (cwV 0 hts gX11_readsLaw_X11_next rfl rfl rfl hdV_X11_next ⟨Nat.le_of_ble_eq_true rfl, Nat.le_of_ble_eq_true rfl⟩) 0 rfl rfl rfl hl.1 rfl (Nat.le_of_ble_eq_true rfl) dX11_readsLaw_1 ⟨Nat.zero_le _, Nat.zero_le _⟩ (fun rv ws2 hPo H locs hw => ?_)
  obtain ⟨rfl, u1_j0, u1_s, rfl⟩ := hPo
  refine lv_aload_n hx hb dX11_readsLaw_4 rfl (lv_at hl 0 rfl) ?_
  refine lv_iload_n hx hb dX11_readsLaw_5 rfl (lv_at hl 1 rfl) ?_
  refine lv_iconst (v := 1) hx hb dX11_readsLaw_6 (by decide) ?_
  refine lv_icmp_ne (tgt := 15) hx hb dX11_readsLaw_7 (by decide) (fun _ => ?_) (fun q => absurd q (by decide))
  refine lv_bipush (v := 99) hx hb dX11_readsLaw_15 (by decide) ?_
  by_cases c_2 : 0 ≤ (rdN byt tpd (wdE byt tpd x0) 99)
  · refine mcVF hf hk hst hw (c_X11_takesNumberY l g oh os ok ol ord odd otp olt orw oso osz oit oho ohe otr stp laws z cnt fogs arms kinds faiths places moved isk tpd u1_j0 rmn tcd own_ opt (mR qstp qlaws qz qcnt qfogs qarms qkinds qfaiths qplaces qmoved) byt (wdE byt tpd x0) 99 (by omega) (by assumption) (by omega) (u1_s) (c_2)) (cwV 1 hts gX11_readsLaw_X11_takesNumber rfl rfl rfl hdV_X11_takesNumber ⟨Nat.le_of_ble_eq_true rfl, Nat.le_of_ble_eq_true rfl⟩) 0 rfl rfl rfl hl.1 rfl (Nat.le_of_ble_eq_true rfl) dX11_readsLaw_17 ⟨Nat.zero_le _, Nat.zero_le _⟩ (fun rv ws2 hPo H locs hw => ?_)
    obtain ⟨rfl, u3_j0, u3_s, rfl⟩ := hPo
    refine lv_istore_n (lv' := [(2, .int (rdN byt tpd (wdE byt tpd x0) 99)), (0, .ref oh), (1, .int 4)]) hx hb dX11_readsLaw_20 rfl hl (by decide) rfl (fun ls hl => ?_)
    refine lv_aload_n hx hb dX11_readsLaw_21 rfl (lv_at hl 1 rfl) ?_
    refine rg hf hk hw hinX11 0 rfl rfl 3 (by decide) w_0 rfl dX11_readsLaw_22 ?_
    refine lv_iload_n hx hb dX11_readsLaw_25 rfl (lv_at hl 2 rfl) ?_
    refine lv_iload_n hx hb dX11_readsLaw_26 rfl (lv_at hl 0 rfl) ?_
    refine rse hf hk hw 2 rfl (j := 4) (vp_in_nI (n := 4) (by omega) (by omega)) (rfl) (mU_law (r := 3) (by omega)) dX11_readsLaw_27 (W' := [cob oh 11 [.ref os, .ref ok, .ref ol, .ref ord, .int isk, .ref odd, .ref otp, .int (nI tpd), .ref olt, .int (nI (wdE byt tpd (wdE byt tpd (wdE byt tpd x0)))), .int (nI (wdS byt tpd (wdE byt tpd (wdE byt tpd x0)))), .int (tkF byt tpd (wdE byt tpd (wdE byt tpd x0))), .int u3_j0, .ref orw, .int (nI rmn), .ref oso, .ref osz, .ref oit, .ref oho, .ref ohe, .ref otr, .int (nI tcd), .int own_, .int opt], cin g os 51 (mR stp laws z cnt fogs arms kinds faiths places moved), cin g ord 51 (mR qstp (upd qlaws 3 (rdN byt tpd (wdE byt tpd x0) 99)) qz qcnt qfogs qarms qkinds qfaiths qplaces qmoved), cin g otp 200 (ubT byt), cch g olt 120 mlet]) rfl (fun H locs hw => ?_)
    refine lv_iload_n hx hb dX11_readsLaw_28 rfl (lv_at hl 0 rfl) ?_
    refine lv_if_lt (tgt := 36) hx hb dX11_readsLaw_29 (by decide) (fun q => absurd q (Int32.not_lt.mpr c_2)) (fun _ => ?_)
    refine lv_iconst (v := 1) hx hb dX11_readsLaw_32 (by decide) ?_
    refine lv_goto (tgt := 37) hx hb dX11_readsLaw_33 (by decide) ?_
    exact rE_z hf hr hlk hw (rfl) ⟨congrArg some (by unfold lwF; rw [if_pos (show 0 ≤ rdN byt tpd (wdE byt tpd x0) (tq_most 3) from c_2)]), u3_j0, (mR qstp (upd qlaws 3 (rdN byt tpd (wdE byt tpd x0) 99)) qz qcnt qfogs qarms qkinds qfaiths qplaces qmoved), ⟨by unfold f_X7_readLaw_x; rw [if_pos (show 0 ≤ rdN byt tpd (wdE byt tpd x0) (tq_most 3) from c_2)]; exact u3_s, fun _ => rfl⟩, by unfold f_X7_readLaw_x; rw [if_pos (show 0 ≤ rdN byt tpd (wdE byt tpd x0) (tq_most 3) from c_2)]⟩ (show ([oh, os, ord, otp, olt] : List Nat) = [oh, os, ord, otp, olt] from rfl) dX11_readsLaw_37
  · refine mcVF hf hk hst hw (c_X11_takesNumberN l g oh os ok ol ord odd otp olt orw oso osz oit oho ohe otr stp laws z cnt fogs arms kinds faiths places moved isk tpd u1_j0 rmn tcd own_ opt (mR qstp qlaws qz qcnt qfogs qarms qkinds qfaiths qplaces qmoved) byt (wdE byt tpd x0) 99 (by omega) (by assumption) (by omega) (u1_s) (c_2)) (cwV 1 hts gX11_readsLaw_X11_takesNumber rfl rfl rfl hdV_X11_takesNumber ⟨Nat.le_of_ble_eq_true rfl, Nat.le_of_ble_eq_true rfl⟩) 0 rfl rfl rfl hl.1 rfl (Nat.le_of_ble_eq_true rfl) dX11_readsLaw_17 ⟨Nat.zero_le _, Nat.zero_le _⟩ (fun rv ws2 hPo H locs hw => ?_)
    obtain ⟨rfl, u4_j0, u4_s, rfl⟩ := hPo
    refine lv_istore_n (lv' := [(2, .int (rdN byt tpd (wdE byt tpd x0) 99)), (0, .ref oh), (1, .int 4)]) hx hb dX11_readsLaw_20 rfl hl (by decide) rfl (fun ls hl => ?_)
    refine lv_aload_n hx hb dX11_readsLaw_21 rfl (lv_at hl 1 rfl) ?_
    refine rg hf hk hw hinX11 0 rfl rfl 3 (by decide) w_0 rfl dX11_readsLaw_22 ?_
    refine lv_iload_n hx hb dX11_readsLaw_25 rfl (lv_at hl 2 rfl) ?_
    refine lv_iload_n hx hb dX11_readsLaw_26 rfl (lv_at hl 0 rfl) ?_
    refine rse hf hk hw 2 rfl (j := 4) (vp_in_nI (n := 4) (by omega) (by omega)) (rfl) (mU_law (r := 3) (by omega)) dX11_readsLaw_27 (W' := [cob oh 11 [.ref os, .ref ok, .ref ol, .ref ord, .int isk, .ref odd, .ref otp, .int (nI tpd), .ref olt, .int (nI (wdE byt tpd (wdE byt tpd x0))), .int (nI (wdS byt tpd (wdE byt tpd x0))), .int (tkF byt tpd (wdE byt tpd x0)), .int u4_j0, .ref orw, .int (nI rmn), .ref oso, .ref osz, .ref oit, .ref oho, .ref ohe, .ref otr, .int (nI tcd), .int own_, .int opt], cin g os 51 (mR stp laws z cnt fogs arms kinds faiths places moved), cin g ord 51 (mR qstp (upd qlaws 3 (rdN byt tpd (wdE byt tpd x0) 99)) qz qcnt qfogs qarms qkinds qfaiths qplaces qmoved), cin g otp 200 (ubT byt), cch g olt 120 mlet]) rfl (fun H locs hw => ?_)
    refine lv_iload_n hx hb dX11_readsLaw_28 rfl (lv_at hl 0 rfl) ?_
    refine lv_if_lt (tgt := 36) hx hb dX11_readsLaw_29 (by decide) (fun _ => ?_) (fun q => absurd (Int32.not_le.mp c_2) q)
    refine lv_iconst (v := 0) hx hb dX11_readsLaw_36 (by decide) ?_
    exact rE_z hf hr hlk hw (rfl) ⟨congrArg some (by unfold lwF; rw [if_neg (show ¬ 0 ≤ rdN byt tpd (wdE byt tpd x0) (tq_most 3) from c_2)]), u4_j0, (mR qstp (upd qlaws 3 (rdN byt tpd (wdE byt tpd x0) 99)) qz qcnt qfogs qarms qkinds qfaiths qplaces qmoved), ⟨by unfold f_X7_readLaw_x; rw [if_neg (show ¬ 0 ≤ rdN byt tpd (wdE byt tpd x0) (tq_most 3) from c_2)]; exact u4_s, fun h => absurd (show (lwF byt tpd x0 3) = 0 by unfold lwF; rw [if_neg (show ¬ 0 ≤ rdN byt tpd (wdE byt tpd x0) (tq_most 3) from c_2)]) h⟩, by unfold f_X7_readLaw_x; rw [if_neg (show ¬ 0 ≤ rdN byt tpd (wdE byt tpd x0) (tq_most 3) from c_2)]⟩ (show ([oh, os, ord, otp, olt] : List Nat) = [oh, os, ord, otp, olt] from rfl) dX11_readsLaw_37
