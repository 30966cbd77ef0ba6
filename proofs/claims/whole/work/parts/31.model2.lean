/-- is there such a part of a row -/
def rwI (rc : Nat) (x w : Int32) : Int32 := if f_X10_isNoPartOfRow rc x w = 0 then 1 else 0
theorem rwI_01 (rc : Nat) (x w : Int32) : rwI rc x w = 0 ∨ rwI rc x w = 1 := by unfold rwI; split; exact Or.inr rfl; exact Or.inl rfl
theorem rwI_1 {rc : Nat} {x w : Int32} (h : ¬ rwI rc x w = 0) : f_X10_isNoPartOfRow rc x w = 0 := by
  by_cases q : f_X10_isNoPartOfRow rc x w = 0
  · exact q
  · unfold rwI at h; rw [if_neg q] at h; exact absurd rfl h
theorem rwI_0 {rc : Nat} {x w : Int32} (h : rwI rc x w = 0) : ¬ f_X10_isNoPartOfRow rc x w = 0 := fun q => by unfold rwI at h; rw [if_pos q] at h; cases h
theorem goP_ok {laws fogs arms kinds faiths places : Nat → Int32} {st cnt : Nat} (hp : ∀ j, j < cnt → plOk (places j)) : ∀ j, j < cnt → plOk (goP laws fogs arms st kinds faiths places cnt j) := fun j hj => by
  unfold goP
  simp only [if_pos hj]
  exact n1P_ok (hp j hj)
theorem goM_ok {laws fogs arms kinds places moved : Nat → Int32} {st cnt : Nat} (hp : ∀ j, j < cnt → moOk (moved j)) : ∀ j, j < cnt → moOk (goM laws fogs arms st kinds places moved cnt j) := fun j hj => by
  unfold goM
  simp only [if_pos hj]
  exact n1M_ok (hp j hj)
abbrev rmX11_becomes : Room := { frames := 0, cells := 0, slots := 0, locals := 0 }
set_option maxHeartbeats 4000000 in
set_option maxRecDepth 100000 in
theorem c_X11_becomes0 (l : Launch) (g : GG) (oh : Nat) (os : Nat) (ok : Nat) (ol : Nat) (ord : Nat) (odd : Nat) (otp : Nat) (olt : Nat) (orw : Nat) (oso : Nat) (osz : Nat) (oit : Nat) (oho : Nat) (ohe : Nat) (otr : Nat) (stp : Nat) (laws : Nat → Int32) (z : Int32) (cnt : Nat) (fogs : Nat → Int32) (arms : Nat → Int32) (kinds : Nat → Int32) (faiths : Nat → Int32) (places : Nat → Int32) (moved : Nat → Int32) (isk : Int32) (tpd : Nat) (oat : Int32) (obg : Int32) (otk : Int32) (ovl : Int32) (rmn : Nat) (tcd : Nat) (own_ : Int32) (opt : Int32) (q : Nat) (v : Int32) (hq : q < 4) : mt l g yX11_becomes wsX11_becomes rmX11_becomes [.ref oh, .int (nI (1 + q)), .int v] [cob oh 11 [.ref os, .ref ok, .ref ol, .ref ord, .int isk, .ref odd, .ref otp, .int (nI tpd), .ref olt, .int oat, .int obg, .int otk, .int ovl, .ref orw, .int (nI rmn), .ref oso, .ref osz, .ref oit, .ref oho, .ref ohe, .ref otr, .int (nI tcd), .int own_, .int opt], cin g os 51 (mR stp laws z cnt fogs arms kinds faiths places moved)] (some (.int (laws q))) [cob oh 11 [.ref os, .ref ok, .ref ol, .ref ord, .int isk, .ref odd, .ref otp, .int (nI tpd), .ref olt, .int oat, .int obg, .int otk, .int ovl, .ref orw, .int (nI rmn), .ref oso, .ref osz, .ref oit, .ref oho, .ref ohe, .ref otr, .int (nI tcd), .int own_, .int opt], cin g os 51 (mR stp (upd laws q v) z cnt fogs arms kinds faiths places moved)] := by
  refine mt.of (cc := cX11_becomes) (nL := 4) (ret := (some .int)) (own := RX11) (by decide +kernel) rfl rfl (show ([oh, os] : List Nat) = [oh, os] from rfl) (Nat.le_of_ble_eq_true rfl) (fun p e s m below meth c hf hr hlk _ hk hst hw ls hl => ?_)
  have hx := hf.1
  have hb := hf.2.1
  have hts := hf.2.2.2.2
  have hl : lv_has ls 4 [(0, .ref oh), (1, .int (nI (1 + q))), (2, .int v)] := hl
  have hinX11 : ∀ w ∈ u_ws RX11 TX11 24, w ∈ wsX11_becomes := fun w h => List.mem_cons_of_mem _ (List.mem_append_right _ h)
  have w_0 : Cond.fieldLink RX11 9 "LightManModel" "s" "[I" ∈ wsX11_becomes := List.mem_of_getElem? (i := 1) rfl
  refine lv_aload_n hx hb dX11_becomes_0 rfl (lv_at hl 0 rfl) ?_
  refine rg hf hk hw hinX11 0 rfl rfl 0 (by decide) w_0 rfl dX11_becomes_1 ?_
  refine lv_iload_n hx hb dX11_becomes_4 rfl (lv_at hl 1 rfl) ?_
  refine rij hf hk hw 1 rfl (j := 1 + q) (vp_in_nI (by omega) (by omega)) (nI_clamp (by omega)) dX11_becomes_5 ?_
  refine lv_tope (y := laws q) (mR_law (by omega)) ?_
  refine lv_istore_n (lv' := [(3, .int (laws q)), (0, .ref oh), (1, .int (nI (1 + q))), (2, .int v)]) hx hb dX11_becomes_6 rfl hl (by decide) rfl (fun ls hl => ?_)
  refine lv_aload_n hx hb dX11_becomes_7 rfl (lv_at hl 1 rfl) ?_
  refine rg hf hk hw hinX11 0 rfl rfl 0 (by decide) w_0 rfl dX11_becomes_8 ?_
  refine lv_iload_n hx hb dX11_becomes_11 rfl (lv_at hl 2 rfl) ?_
  refine lv_iload_n hx hb dX11_becomes_12 rfl (lv_at hl 3 rfl) ?_
  refine rse hf hk hw 1 rfl (j := 1 + q) (vp_in_nI (by omega) (by omega)) (nI_clamp (by omega)) (mU_law (r := q) (by omega)) dX11_becomes_13 (W' := [cob oh 11 [.ref os, .ref ok, .ref ol, .ref ord, .int isk, .ref odd, .ref otp, .int (nI tpd), .ref olt, .int oat, .int obg, .int otk, .int ovl, .ref orw, .int (nI rmn), .ref oso, .ref osz, .ref oit, .ref oho, .ref ohe, .ref otr, .int (nI tcd), .int own_, .int opt], cin g os 51 (mR stp (upd laws q v) z cnt fogs arms kinds faiths places moved)]) rfl (fun H locs hw => ?_)
  refine lv_iload_n hx hb dX11_becomes_14 rfl (lv_at hl 0 rfl) ?_
  exact re_i hf hr hlk hw (rfl) (rfl) dX11_becomes_15
set_option maxHeartbeats 4000000 in
set_option maxRecDepth 100000 in
theorem c_X11_becomes1 (l : Launch) (g : GG) (oh : Nat) (os : Nat) (ok : Nat) (ol : Nat) (ord : Nat) (odd : Nat) (otp : Nat) (olt : Nat) (orw : Nat) (oso : Nat) (osz : Nat) (oit : Nat) (oho : Nat) (ohe : Nat) (otr : Nat) (stp : Nat) (laws : Nat → Int32) (z : Int32) (cnt : Nat) (fogs : Nat → Int32) (arms : Nat → Int32) (kinds : Nat → Int32) (faiths : Nat → Int32) (places : Nat → Int32) (moved : Nat → Int32) (isk : Int32) (tpd : Nat) (oat : Int32) (obg : Int32) (otk : Int32) (ovl : Int32) (rmn : Nat) (tcd : Nat) (own_ : Int32) (opt : Int32) (v : Int32) : mt l g yX11_becomes wsX11_becomes rmX11_becomes [.ref oh, .int 5, .int v] [cob oh 11 [.ref os, .ref ok, .ref ol, .ref ord, .int isk, .ref odd, .ref otp, .int (nI tpd), .ref olt, .int oat, .int obg, .int otk, .int ovl, .ref orw, .int (nI rmn), .ref oso, .ref osz, .ref oit, .ref oho, .ref ohe, .ref otr, .int (nI tcd), .int own_, .int opt], cin g os 51 (mR stp laws z cnt fogs arms kinds faiths places moved)] (some (.int z)) [cob oh 11 [.ref os, .ref ok, .ref ol, .ref ord, .int isk, .ref odd, .ref otp, .int (nI tpd), .ref olt, .int oat, .int obg, .int otk, .int ovl, .ref orw, .int (nI rmn), .ref oso, .ref osz, .ref oit, .ref oho, .ref ohe, .ref otr, .int (nI tcd), .int own_, .int opt], cin g os 51 (mR stp laws v cnt fogs arms kinds faiths places moved)] := by
  refine mt.of (cc := cX11_becomes) (nL := 4) (ret := (some .int)) (own := RX11) (by decide +kernel) rfl rfl (show ([oh, os] : List Nat) = [oh, os] from rfl) (Nat.le_of_ble_eq_true rfl) (fun p e s m below meth c hf hr hlk _ hk hst hw ls hl => ?_)
  have hx := hf.1
  have hb := hf.2.1
  have hts := hf.2.2.2.2
  have hl : lv_has ls 4 [(0, .ref oh), (1, .int 5), (2, .int v)] := hl
  have hinX11 : ∀ w ∈ u_ws RX11 TX11 24, w ∈ wsX11_becomes := fun w h => List.mem_cons_of_mem _ (List.mem_append_right _ h)
  have w_0 : Cond.fieldLink RX11 9 "LightManModel" "s" "[I" ∈ wsX11_becomes := List.mem_of_getElem? (i := 1) rfl
  refine lv_aload_n hx hb dX11_becomes_0 rfl (lv_at hl 0 rfl) ?_
  refine rg hf hk hw hinX11 0 rfl rfl 0 (by decide) w_0 rfl dX11_becomes_1 ?_
  refine lv_iload_n hx hb dX11_becomes_4 rfl (lv_at hl 1 rfl) ?_
  refine rij hf hk hw 1 rfl (j := 5) (vp_in_nI (n := 5) (by omega) (by omega)) (rfl) dX11_becomes_5 ?_
  refine lv_tope (y := z) (rfl) ?_
  refine lv_istore_n (lv' := [(3, .int z), (0, .ref oh), (1, .int 5), (2, .int v)]) hx hb dX11_becomes_6 rfl hl (by decide) rfl (fun ls hl => ?_)
  refine lv_aload_n hx hb dX11_becomes_7 rfl (lv_at hl 1 rfl) ?_
  refine rg hf hk hw hinX11 0 rfl rfl 0 (by decide) w_0 rfl dX11_becomes_8 ?_
  refine lv_iload_n hx hb dX11_becomes_11 rfl (lv_at hl 2 rfl) ?_
  refine lv_iload_n hx hb dX11_becomes_12 rfl (lv_at hl 3 rfl) ?_
  refine rse hf hk hw 1 rfl (j := 5) (vp_in_nI (n := 5) (by omega) (by omega)) (rfl) (mU_z) dX11_becomes_13 (W' := [cob oh 11 [.ref os, .ref ok, .ref ol, .ref ord, .int isk, .ref odd, .ref otp, .int (nI tpd), .ref olt, .int oat, .int obg, .int otk, .int ovl, .ref orw, .int (nI rmn), .ref oso, .ref osz, .ref oit, .ref oho, .ref ohe, .ref otr, .int (nI tcd), .int own_, .int opt], cin g os 51 (mR stp laws v cnt fogs arms kinds faiths places moved)]) rfl (fun H locs hw => ?_)
  refine lv_iload_n hx hb dX11_becomes_14 rfl (lv_at hl 0 rfl) ?_
  exact re_i hf hr hlk hw (rfl) (rfl) dX11_becomes_15
set_option maxHeartbeats 4000000 in
set_option maxRecDepth 100000 in
theorem c_X11_becomes2 (l : Launch) (g : GG) (oh : Nat) (os : Nat) (ok : Nat) (ol : Nat) (ord : Nat) (odd : Nat) (otp : Nat) (olt : Nat) (orw : Nat) (oso : Nat) (osz : Nat) (oit : Nat) (oho : Nat) (ohe : Nat) (otr : Nat) (stp : Nat) (laws : Nat → Int32) (z : Int32) (cnt : Nat) (fogs : Nat → Int32) (arms : Nat → Int32) (kinds : Nat → Int32) (faiths : Nat → Int32) (places : Nat → Int32) (moved : Nat → Int32) (isk : Int32) (tpd : Nat) (oat : Int32) (obg : Int32) (otk : Int32) (ovl : Int32) (rmn : Nat) (tcd : Nat) (own_ : Int32) (opt : Int32) (q : Nat) (v : Int32) (hq : q < 6) : mt l g yX11_becomes wsX11_becomes rmX11_becomes [.ref oh, .int (nI (7 + q)), .int v] [cob oh 11 [.ref os, .ref ok, .ref ol, .ref ord, .int isk, .ref odd, .ref otp, .int (nI tpd), .ref olt, .int oat, .int obg, .int otk, .int ovl, .ref orw, .int (nI rmn), .ref oso, .ref osz, .ref oit, .ref oho, .ref ohe, .ref otr, .int (nI tcd), .int own_, .int opt], cin g os 51 (mR stp laws z cnt fogs arms kinds faiths places moved)] (some (.int (fogs q))) [cob oh 11 [.ref os, .ref ok, .ref ol, .ref ord, .int isk, .ref odd, .ref otp, .int (nI tpd), .ref olt, .int oat, .int obg, .int otk, .int ovl, .ref orw, .int (nI rmn), .ref oso, .ref osz, .ref oit, .ref oho, .ref ohe, .ref otr, .int (nI tcd), .int own_, .int opt], cin g os 51 (mR stp laws z cnt (upd fogs q v) arms kinds faiths places moved)] := by
  refine mt.of (cc := cX11_becomes) (nL := 4) (ret := (some .int)) (own := RX11) (by decide +kernel) rfl rfl (show ([oh, os] : List Nat) = [oh, os] from rfl) (Nat.le_of_ble_eq_true rfl) (fun p e s m below meth c hf hr hlk _ hk hst hw ls hl => ?_)
  have hx := hf.1
  have hb := hf.2.1
  have hts := hf.2.2.2.2
  have hl : lv_has ls 4 [(0, .ref oh), (1, .int (nI (7 + q))), (2, .int v)] := hl
  have hinX11 : ∀ w ∈ u_ws RX11 TX11 24, w ∈ wsX11_becomes := fun w h => List.mem_cons_of_mem _ (List.mem_append_right _ h)
  have w_0 : Cond.fieldLink RX11 9 "LightManModel" "s" "[I" ∈ wsX11_becomes := List.mem_of_getElem? (i := 1) rfl
  refine lv_aload_n hx hb dX11_becomes_0 rfl (lv_at hl 0 rfl) ?_
  refine rg hf hk hw hinX11 0 rfl rfl 0 (by decide) w_0 rfl dX11_becomes_1 ?_
  refine lv_iload_n hx hb dX11_becomes_4 rfl (lv_at hl 1 rfl) ?_
  refine rij hf hk hw 1 rfl (j := 7 + q) (vp_in_nI (by omega) (by omega)) (nI_clamp (by omega)) dX11_becomes_5 ?_
  refine lv_tope (y := fogs q) (mR_fog (by omega)) ?_
  refine lv_istore_n (lv' := [(3, .int (fogs q)), (0, .ref oh), (1, .int (nI (7 + q))), (2, .int v)]) hx hb dX11_becomes_6 rfl hl (by decide) rfl (fun ls hl => ?_)
  refine lv_aload_n hx hb dX11_becomes_7 rfl (lv_at hl 1 rfl) ?_
  refine rg hf hk hw hinX11 0 rfl rfl 0 (by decide) w_0 rfl dX11_becomes_8 ?_
  refine lv_iload_n hx hb dX11_becomes_11 rfl (lv_at hl 2 rfl) ?_
  refine lv_iload_n hx hb dX11_becomes_12 rfl (lv_at hl 3 rfl) ?_
  refine rse hf hk hw 1 rfl (j := 7 + q) (vp_in_nI (by omega) (by omega)) (nI_clamp (by omega)) (mU_fog (r := q) (by omega)) dX11_becomes_13 (W' := [cob oh 11 [.ref os, .ref ok, .ref ol, .ref ord, .int isk, .ref odd, .ref otp, .int (nI tpd), .ref olt, .int oat, .int obg, .int otk, .int ovl, .ref orw, .int (nI rmn), .ref oso, .ref osz, .ref oit, .ref oho, .ref ohe, .ref otr, .int (nI tcd), .int own_, .int opt], cin g os 51 (mR stp laws z cnt (upd fogs q v) arms kinds faiths places moved)]) rfl (fun H locs hw => ?_)
  refine lv_iload_n hx hb dX11_becomes_14 rfl (lv_at hl 0 rfl) ?_
  exact re_i hf hr hlk hw (rfl) (rfl) dX11_becomes_15
set_option maxHeartbeats 4000000 in
set_option maxRecDepth 100000 in
theorem c_X11_becomes3 (l : Launch) (g : GG) (oh : Nat) (os : Nat) (ok : Nat) (ol : Nat) (ord : Nat) (odd : Nat) (otp : Nat) (olt : Nat) (orw : Nat) (oso : Nat) (osz : Nat) (oit : Nat) (oho : Nat) (ohe : Nat) (otr : Nat) (stp : Nat) (laws : Nat → Int32) (z : Int32) (cnt : Nat) (fogs : Nat → Int32) (arms : Nat → Int32) (kinds : Nat → Int32) (faiths : Nat → Int32) (places : Nat → Int32) (moved : Nat → Int32) (isk : Int32) (tpd : Nat) (oat : Int32) (obg : Int32) (otk : Int32) (ovl : Int32) (rmn : Nat) (tcd : Nat) (own_ : Int32) (opt : Int32) (q : Nat) (v : Int32) (hq : q < 6) : mt l g yX11_becomes wsX11_becomes rmX11_becomes [.ref oh, .int (nI (13 + q)), .int v] [cob oh 11 [.ref os, .ref ok, .ref ol, .ref ord, .int isk, .ref odd, .ref otp, .int (nI tpd), .ref olt, .int oat, .int obg, .int otk, .int ovl, .ref orw, .int (nI rmn), .ref oso, .ref osz, .ref oit, .ref oho, .ref ohe, .ref otr, .int (nI tcd), .int own_, .int opt], cin g os 51 (mR stp laws z cnt fogs arms kinds faiths places moved)] (some (.int (arms q))) [cob oh 11 [.ref os, .ref ok, .ref ol, .ref ord, .int isk, .ref odd, .ref otp, .int (nI tpd), .ref olt, .int oat, .int obg, .int otk, .int ovl, .ref orw, .int (nI rmn), .ref oso, .ref osz, .ref oit, .ref oho, .ref ohe, .ref otr, .int (nI tcd), .int own_, .int opt], cin g os 51 (mR stp laws z cnt fogs (upd arms q v) kinds faiths places moved)] := by
  refine mt.of (cc := cX11_becomes) (nL := 4) (ret := (some .int)) (own := RX11) (by decide +kernel) rfl rfl (show ([oh, os] : List Nat) = [oh, os] from rfl) (Nat.le_of_ble_eq_true rfl) (fun p e s m below meth c hf hr hlk _ hk hst hw ls hl => ?_)
  have hx := hf.1
  have hb := hf.2.1
  have hts := hf.2.2.2.2
  have hl : lv_has ls 4 [(0, .ref oh), (1, .int (nI (13 + q))), (2, .int v)] := hl
  have hinX11 : ∀ w ∈ u_ws RX11 TX11 24, w ∈ wsX11_becomes := fun w h => List.mem_cons_of_mem _ (List.mem_append_right _ h)
  have w_0 : Cond.fieldLink RX11 9 "LightManModel" "s" "[I" ∈ wsX11_becomes := List.mem_of_getElem? (i := 1) rfl
  refine lv_aload_n hx hb dX11_becomes_0 rfl (lv_at hl 0 rfl) ?_
  refine rg hf hk hw hinX11 0 rfl rfl 0 (by decide) w_0 rfl dX11_becomes_1 ?_
  refine lv_iload_n hx hb dX11_becomes_4 rfl (lv_at hl 1 rfl) ?_
  refine rij hf hk hw 1 rfl (j := 13 + q) (vp_in_nI (by omega) (by omega)) (nI_clamp (by omega)) dX11_becomes_5 ?_
  refine lv_tope (y := arms q) (mR_arm (by omega)) ?_
  refine lv_istore_n (lv' := [(3, .int (arms q)), (0, .ref oh), (1, .int (nI (13 + q))), (2, .int v)]) hx hb dX11_becomes_6 rfl hl (by decide) rfl (fun ls hl => ?_)
  refine lv_aload_n hx hb dX11_becomes_7 rfl (lv_at hl 1 rfl) ?_
  refine rg hf hk hw hinX11 0 rfl rfl 0 (by decide) w_0 rfl dX11_becomes_8 ?_
  refine lv_iload_n hx hb dX11_becomes_11 rfl (lv_at hl 2 rfl) ?_
  refine lv_iload_n hx hb dX11_becomes_12 rfl (lv_at hl 3 rfl) ?_
  refine rse hf hk hw 1 rfl (j := 13 + q) (vp_in_nI (by omega) (by omega)) (nI_clamp (by omega)) (mU_arm (r := q) (by omega)) dX11_becomes_13 (W' := [cob oh 11 [.ref os, .ref ok, .ref ol, .ref ord, .int isk, .ref odd, .ref otp, .int (nI tpd), .ref olt, .int oat, .int obg, .int otk, .int ovl, .ref orw, .int (nI rmn), .ref oso, .ref osz, .ref oit, .ref oho, .ref ohe, .ref otr, .int (nI tcd), .int own_, .int opt], cin g os 51 (mR stp laws z cnt fogs (upd arms q v) kinds faiths places moved)]) rfl (fun H locs hw => ?_)
  refine lv_iload_n hx hb dX11_becomes_14 rfl (lv_at hl 0 rfl) ?_
  exact re_i hf hr hlk hw (rfl) (rfl) dX11_becomes_15
set_option maxHeartbeats 4000000 in
set_option maxRecDepth 100000 in
theorem c_X11_becomes4 (l : Launch) (g : GG) (oh : Nat) (os : Nat) (ok : Nat) (ol : Nat) (ord : Nat) (odd : Nat) (otp : Nat) (olt : Nat) (orw : Nat) (oso : Nat) (osz : Nat) (oit : Nat) (oho : Nat) (ohe : Nat) (otr : Nat) (stp : Nat) (laws : Nat → Int32) (z : Int32) (cnt : Nat) (fogs : Nat → Int32) (arms : Nat → Int32) (kinds : Nat → Int32) (faiths : Nat → Int32) (places : Nat → Int32) (moved : Nat → Int32) (isk : Int32) (tpd : Nat) (oat : Int32) (obg : Int32) (otk : Int32) (ovl : Int32) (rmn : Nat) (tcd : Nat) (own_ : Int32) (opt : Int32) (q : Nat) (v : Int32) (hq : q < 8) : mt l g yX11_becomes wsX11_becomes rmX11_becomes [.ref oh, .int (nI (19 + 4 * q)), .int v] [cob oh 11 [.ref os, .ref ok, .ref ol, .ref ord, .int isk, .ref odd, .ref otp, .int (nI tpd), .ref olt, .int oat, .int obg, .int otk, .int ovl, .ref orw, .int (nI rmn), .ref oso, .ref osz, .ref oit, .ref oho, .ref ohe, .ref otr, .int (nI tcd), .int own_, .int opt], cin g os 51 (mR stp laws z cnt fogs arms kinds faiths places moved)] (some (.int (kinds q))) [cob oh 11 [.ref os, .ref ok, .ref ol, .ref ord, .int isk, .ref odd, .ref otp, .int (nI tpd), .ref olt, .int oat, .int obg, .int otk, .int ovl, .ref orw, .int (nI rmn), .ref oso, .ref osz, .ref oit, .ref oho, .ref ohe, .ref otr, .int (nI tcd), .int own_, .int opt], cin g os 51 (mR stp laws z cnt fogs arms (upd kinds q v) faiths places moved)] := by
  refine mt.of (cc := cX11_becomes) (nL := 4) (ret := (some .int)) (own := RX11) (by decide +kernel) rfl rfl (show ([oh, os] : List Nat) = [oh, os] from rfl) (Nat.le_of_ble_eq_true rfl) (fun p e s m below meth c hf hr hlk _ hk hst hw ls hl => ?_)
  have hx := hf.1
  have hb := hf.2.1
  have hts := hf.2.2.2.2
  have hl : lv_has ls 4 [(0, .ref oh), (1, .int (nI (19 + 4 * q))), (2, .int v)] := hl
  have hinX11 : ∀ w ∈ u_ws RX11 TX11 24, w ∈ wsX11_becomes := fun w h => List.mem_cons_of_mem _ (List.mem_append_right _ h)
  have w_0 : Cond.fieldLink RX11 9 "LightManModel" "s" "[I" ∈ wsX11_becomes := List.mem_of_getElem? (i := 1) rfl
  refine lv_aload_n hx hb dX11_becomes_0 rfl (lv_at hl 0 rfl) ?_
  refine rg hf hk hw hinX11 0 rfl rfl 0 (by decide) w_0 rfl dX11_becomes_1 ?_
  refine lv_iload_n hx hb dX11_becomes_4 rfl (lv_at hl 1 rfl) ?_
  refine rij hf hk hw 1 rfl (j := 19 + 4 * q) (vp_in_nI (by omega) (by omega)) (nI_clamp (by omega)) dX11_becomes_5 ?_
  refine lv_tope (y := kinds q) (mR_kd) ?_
  refine lv_istore_n (lv' := [(3, .int (kinds q)), (0, .ref oh), (1, .int (nI (19 + 4 * q))), (2, .int v)]) hx hb dX11_becomes_6 rfl hl (by decide) rfl (fun ls hl => ?_)
  refine lv_aload_n hx hb dX11_becomes_7 rfl (lv_at hl 1 rfl) ?_
  refine rg hf hk hw hinX11 0 rfl rfl 0 (by decide) w_0 rfl dX11_becomes_8 ?_
  refine lv_iload_n hx hb dX11_becomes_11 rfl (lv_at hl 2 rfl) ?_
  refine lv_iload_n hx hb dX11_becomes_12 rfl (lv_at hl 3 rfl) ?_
  refine rse hf hk hw 1 rfl (j := 19 + 4 * q) (vp_in_nI (by omega) (by omega)) (nI_clamp (by omega)) (mU_kd) dX11_becomes_13 (W' := [cob oh 11 [.ref os, .ref ok, .ref ol, .ref ord, .int isk, .ref odd, .ref otp, .int (nI tpd), .ref olt, .int oat, .int obg, .int otk, .int ovl, .ref orw, .int (nI rmn), .ref oso, .ref osz, .ref oit, .ref oho, .ref ohe, .ref otr, .int (nI tcd), .int own_, .int opt], cin g os 51 (mR stp laws z cnt fogs arms (upd kinds q v) faiths places moved)]) rfl (fun H locs hw => ?_)
  refine lv_iload_n hx hb dX11_becomes_14 rfl (lv_at hl 0 rfl) ?_
  exact re_i hf hr hlk hw (rfl) (rfl) dX11_becomes_15
set_option maxHeartbeats 4000000 in
set_option maxRecDepth 100000 in
theorem c_X11_becomes5 (l : Launch) (g : GG) (oh : Nat) (os : Nat) (ok : Nat) (ol : Nat) (ord : Nat) (odd : Nat) (otp : Nat) (olt : Nat) (orw : Nat) (oso : Nat) (osz : Nat) (oit : Nat) (oho : Nat) (ohe : Nat) (otr : Nat) (stp : Nat) (laws : Nat → Int32) (z : Int32) (cnt : Nat) (fogs : Nat → Int32) (arms : Nat → Int32) (kinds : Nat → Int32) (faiths : Nat → Int32) (places : Nat → Int32) (moved : Nat → Int32) (isk : Int32) (tpd : Nat) (oat : Int32) (obg : Int32) (otk : Int32) (ovl : Int32) (rmn : Nat) (tcd : Nat) (own_ : Int32) (opt : Int32) (q : Nat) (v : Int32) (hq : q < 8) : mt l g yX11_becomes wsX11_becomes rmX11_becomes [.ref oh, .int (nI (19 + 4 * q + 1)), .int v] [cob oh 11 [.ref os, .ref ok, .ref ol, .ref ord, .int isk, .ref odd, .ref otp, .int (nI tpd), .ref olt, .int oat, .int obg, .int otk, .int ovl, .ref orw, .int (nI rmn), .ref oso, .ref osz, .ref oit, .ref oho, .ref ohe, .ref otr, .int (nI tcd), .int own_, .int opt], cin g os 51 (mR stp laws z cnt fogs arms kinds faiths places moved)] (some (.int (faiths q))) [cob oh 11 [.ref os, .ref ok, .ref ol, .ref ord, .int isk, .ref odd, .ref otp, .int (nI tpd), .ref olt, .int oat, .int obg, .int otk, .int ovl, .ref orw, .int (nI rmn), .ref oso, .ref osz, .ref oit, .ref oho, .ref ohe, .ref otr, .int (nI tcd), .int own_, .int opt], cin g os 51 (mR stp laws z cnt fogs arms kinds (upd faiths q v) places moved)] := by
  refine mt.of (cc := cX11_becomes) (nL := 4) (ret := (some .int)) (own := RX11) (by decide +kernel) rfl rfl (show ([oh, os] : List Nat) = [oh, os] from rfl) (Nat.le_of_ble_eq_true rfl) (fun p e s m below meth c hf hr hlk _ hk hst hw ls hl => ?_)
  have hx := hf.1
  have hb := hf.2.1
  have hts := hf.2.2.2.2
  have hl : lv_has ls 4 [(0, .ref oh), (1, .int (nI (19 + 4 * q + 1))), (2, .int v)] := hl
  have hinX11 : ∀ w ∈ u_ws RX11 TX11 24, w ∈ wsX11_becomes := fun w h => List.mem_cons_of_mem _ (List.mem_append_right _ h)
  have w_0 : Cond.fieldLink RX11 9 "LightManModel" "s" "[I" ∈ wsX11_becomes := List.mem_of_getElem? (i := 1) rfl
  refine lv_aload_n hx hb dX11_becomes_0 rfl (lv_at hl 0 rfl) ?_
  refine rg hf hk hw hinX11 0 rfl rfl 0 (by decide) w_0 rfl dX11_becomes_1 ?_
  refine lv_iload_n hx hb dX11_becomes_4 rfl (lv_at hl 1 rfl) ?_
  refine rij hf hk hw 1 rfl (j := 19 + 4 * q + 1) (vp_in_nI (by omega) (by omega)) (nI_clamp (by omega)) dX11_becomes_5 ?_
  refine lv_tope (y := faiths q) (mR_fa) ?_
  refine lv_istore_n (lv' := [(3, .int (faiths q)), (0, .ref oh), (1, .int (nI (19 + 4 * q + 1))), (2, .int v)]) hx hb dX11_becomes_6 rfl hl (by decide) rfl (fun ls hl => ?_)
  refine lv_aload_n hx hb dX11_becomes_7 rfl (lv_at hl 1 rfl) ?_
  refine rg hf hk hw hinX11 0 rfl rfl 0 (by decide) w_0 rfl dX11_becomes_8 ?_
  refine lv_iload_n hx hb dX11_becomes_11 rfl (lv_at hl 2 rfl) ?_
  refine lv_iload_n hx hb dX11_becomes_12 rfl (lv_at hl 3 rfl) ?_
  refine rse hf hk hw 1 rfl (j := 19 + 4 * q + 1) (vp_in_nI (by omega) (by omega)) (nI_clamp (by omega)) (mU_fa) dX11_becomes_13 (W' := [cob oh 11 [.ref os, .ref ok, .ref ol, .ref ord, .int isk, .ref odd, .ref otp, .int (nI tpd), .ref olt, .int oat, .int obg, .int otk, .int ovl, .ref orw, .int (nI rmn), .ref oso, .ref osz, .ref oit, .ref oho, .ref ohe, .ref otr, .int (nI tcd), .int own_, .int opt], cin g os 51 (mR stp laws z cnt fogs arms kinds (upd faiths q v) places moved)]) rfl (fun H locs hw => ?_)
  refine lv_iload_n hx hb dX11_becomes_14 rfl (lv_at hl 0 rfl) ?_
  exact re_i hf hr hlk hw (rfl) (rfl) dX11_becomes_15
set_option maxHeartbeats 4000000 in
set_option maxRecDepth 100000 in
theorem c_X11_becomes6 (l : Launch) (g : GG) (oh : Nat) (os : Nat) (ok : Nat) (ol : Nat) (ord : Nat) (odd : Nat) (otp : Nat) (olt : Nat) (orw : Nat) (oso : Nat) (osz : Nat) (oit : Nat) (oho : Nat) (ohe : Nat) (otr : Nat) (stp : Nat) (laws : Nat → Int32) (z : Int32) (cnt : Nat) (fogs : Nat → Int32) (arms : Nat → Int32) (kinds : Nat → Int32) (faiths : Nat → Int32) (places : Nat → Int32) (moved : Nat → Int32) (isk : Int32) (tpd : Nat) (oat : Int32) (obg : Int32) (otk : Int32) (ovl : Int32) (rmn : Nat) (tcd : Nat) (own_ : Int32) (opt : Int32) (q : Nat) (v : Int32) (hq : q < 8) : mt l g yX11_becomes wsX11_becomes rmX11_becomes [.ref oh, .int (nI (19 + 4 * q + 2)), .int v] [cob oh 11 [.ref os, .ref ok, .ref ol, .ref ord, .int isk, .ref odd, .ref otp, .int (nI tpd), .ref olt, .int oat, .int obg, .int otk, .int ovl, .ref orw, .int (nI rmn), .ref oso, .ref osz, .ref oit, .ref oho, .ref ohe, .ref otr, .int (nI tcd), .int own_, .int opt], cin g os 51 (mR stp laws z cnt fogs arms kinds faiths places moved)] (some (.int (places q))) [cob oh 11 [.ref os, .ref ok, .ref ol, .ref ord, .int isk, .ref odd, .ref otp, .int (nI tpd), .ref olt, .int oat, .int obg, .int otk, .int ovl, .ref orw, .int (nI rmn), .ref oso, .ref osz, .ref oit, .ref oho, .ref ohe, .ref otr, .int (nI tcd), .int own_, .int opt], cin g os 51 (mR stp laws z cnt fogs arms kinds faiths (upd places q v) moved)] := by
  refine mt.of (cc := cX11_becomes) (nL := 4) (ret := (some .int)) (own := RX11) (by decide +kernel) rfl rfl (show ([oh, os] : List Nat) = [oh, os] from rfl) (Nat.le_of_ble_eq_true rfl) (fun p e s m below meth c hf hr hlk _ hk hst hw ls hl => ?_)
  have hx := hf.1
  have hb := hf.2.1
  have hts := hf.2.2.2.2
  have hl : lv_has ls 4 [(0, .ref oh), (1, .int (nI (19 + 4 * q + 2))), (2, .int v)] := hl
  have hinX11 : ∀ w ∈ u_ws RX11 TX11 24, w ∈ wsX11_becomes := fun w h => List.mem_cons_of_mem _ (List.mem_append_right _ h)
  have w_0 : Cond.fieldLink RX11 9 "LightManModel" "s" "[I" ∈ wsX11_becomes := List.mem_of_getElem? (i := 1) rfl
  refine lv_aload_n hx hb dX11_becomes_0 rfl (lv_at hl 0 rfl) ?_
  refine rg hf hk hw hinX11 0 rfl rfl 0 (by decide) w_0 rfl dX11_becomes_1 ?_
  refine lv_iload_n hx hb dX11_becomes_4 rfl (lv_at hl 1 rfl) ?_
  refine rij hf hk hw 1 rfl (j := 19 + 4 * q + 2) (vp_in_nI (by omega) (by omega)) (nI_clamp (by omega)) dX11_becomes_5 ?_
  refine lv_tope (y := places q) (mR_pl) ?_
  refine lv_istore_n (lv' := [(3, .int (places q)), (0, .ref oh), (1, .int (nI (19 + 4 * q + 2))), (2, .int v)]) hx hb dX11_becomes_6 rfl hl (by decide) rfl (fun ls hl => ?_)
  refine lv_aload_n hx hb dX11_becomes_7 rfl (lv_at hl 1 rfl) ?_
  refine rg hf hk hw hinX11 0 rfl rfl 0 (by decide) w_0 rfl dX11_becomes_8 ?_
  refine lv_iload_n hx hb dX11_becomes_11 rfl (lv_at hl 2 rfl) ?_
  refine lv_iload_n hx hb dX11_becomes_12 rfl (lv_at hl 3 rfl) ?_
  refine rse hf hk hw 1 rfl (j := 19 + 4 * q + 2) (vp_in_nI (by omega) (by omega)) (nI_clamp (by omega)) (mU_pl) dX11_becomes_13 (W' := [cob oh 11 [.ref os, .ref ok, .ref ol, .ref ord, .int isk, .ref odd, .ref otp, .int (nI tpd), .ref olt, .int oat, .int obg, .int otk, .int ovl, .ref orw, .int (nI rmn), .ref oso, .ref osz, .ref oit, .ref oho, .ref ohe, .ref otr, .int (nI tcd), .int own_, .int opt], cin g os 51 (mR stp laws z cnt fogs arms kinds faiths (upd places q v) moved)]) rfl (fun H locs hw => ?_)
  refine lv_iload_n hx hb dX11_becomes_14 rfl (lv_at hl 0 rfl) ?_
  exact re_i hf hr hlk hw (rfl) (rfl) dX11_becomes_15
abbrev rmX11_isLaw : Room := { frames := 1, cells := 0, slots := 0, locals := 22 }
set_option maxHeartbeats 4000000 in
set_option maxRecDepth 100000 in
theorem c_X11_isLaw (l : Launch) (g : GG) (x : Int32) : mt l g yX11_isLaw wsX11_isLaw rmX11_isLaw [.int x] [] (some (.int (nO x 0 3))) [] := by
  refine mt.of (cc := cX11_isLaw) (nL := 1) (ret := (some .boolean)) (own := RX11) (by decide +kernel) rfl rfl (show ([] : List Nat) = [] from rfl) (Nat.le_of_ble_eq_true rfl) (fun p e s m below meth c hf hr hlk _ hk hst hw ls hl => ?_)
  have hx := hf.1
  have hb := hf.2.1
  have hts := hf.2.2.2.2
  have hl : lv_has ls 1 [(0, .int x)] := hl
  refine lv_iload_n hx hb dX11_isLaw_0 rfl (lv_at hl 0 rfl) ?_
  refine lv_iconst (v := 0) hx hb dX11_isLaw_1 (by decide) ?_
  refine lv_iconst (v := 3) hx hb dX11_isLaw_2 (by decide) ?_
  refine mcS hf hk hst hw (c_X11_in1 l g x 0 3) (va_cwS 3 hts gX11_isLaw_X11_in1 rfl rfl rfl hdS_X11_in1 ⟨Nat.le_of_ble_eq_true rfl, Nat.le_of_ble_eq_true rfl⟩) [] rfl rfl rfl hl.1 rfl (Nat.le_of_ble_eq_true rfl) dX11_isLaw_3 ⟨Nat.zero_le _, Nat.zero_le _⟩ (W' := []) rfl (fun H locs hw => ?_)
  exact re_z hf hr hlk hw (nar_z (nO_01 _ _ _)) (rfl) (rfl) dX11_isLaw_6
abbrev rmX11_isRest : Room := { frames := 1, cells := 0, slots := 0, locals := 22 }
set_option maxHeartbeats 4000000 in
set_option maxRecDepth 100000 in
theorem c_X11_isRest (l : Launch) (g : GG) (x : Int32) : mt l g yX11_isRest wsX11_isRest rmX11_isRest [.int x] [] (some (.int (nO x 0 5))) [] := by
  refine mt.of (cc := cX11_isRest) (nL := 1) (ret := (some .boolean)) (own := RX11) (by decide +kernel) rfl rfl (show ([] : List Nat) = [] from rfl) (Nat.le_of_ble_eq_true rfl) (fun p e s m below meth c hf hr hlk _ hk hst hw ls hl => ?_)
  have hx := hf.1
  have hb := hf.2.1
  have hts := hf.2.2.2.2
  have hl : lv_has ls 1 [(0, .int x)] := hl
  refine lv_iload_n hx hb dX11_isRest_0 rfl (lv_at hl 0 rfl) ?_
  refine lv_iconst (v := 0) hx hb dX11_isRest_1 (by decide) ?_
  refine lv_iconst (v := 5) hx hb dX11_isRest_2 (by decide) ?_
  refine mcS hf hk hst hw (c_X11_in1 l g x 0 5) (va_cwS 3 hts gX11_isRest_X11_in1 rfl rfl rfl hdS_X11_in1 ⟨Nat.le_of_ble_eq_true rfl, Nat.le_of_ble_eq_true rfl⟩) [] rfl rfl rfl hl.1 rfl (Nat.le_of_ble_eq_true rfl) dX11_isRest_3 ⟨Nat.zero_le _, Nat.zero_le _⟩ (W' := []) rfl (fun H locs hw => ?_)
  exact re_z hf hr hlk hw (nar_z (nO_01 _ _ _)) (rfl) (rfl) dX11_isRest_6
abbrev rmX11_isSheet : Room := { frames := 1, cells := 0, slots := 0, locals := 22 }
set_option maxHeartbeats 4000000 in
set_option maxRecDepth 100000 in
theorem c_X11_isSheet (l : Launch) (g : GG) (x : Int32) : mt l g yX11_isSheet wsX11_isSheet rmX11_isSheet [.int x] [] (some (.int (nO x 0 3))) [] := by
  refine mt.of (cc := cX11_isSheet) (nL := 1) (ret := (some .boolean)) (own := RX11) (by decide +kernel) rfl rfl (show ([] : List Nat) = [] from rfl) (Nat.le_of_ble_eq_true rfl) (fun p e s m below meth c hf hr hlk _ hk hst hw ls hl => ?_)
  have hx := hf.1
  have hb := hf.2.1
  have hts := hf.2.2.2.2
  have hl : lv_has ls 1 [(0, .int x)] := hl
  refine lv_iload_n hx hb dX11_isSheet_0 rfl (lv_at hl 0 rfl) ?_
  refine lv_iconst (v := 0) hx hb dX11_isSheet_1 (by decide) ?_
  refine lv_iconst (v := 3) hx hb dX11_isSheet_2 (by decide) ?_
  refine mcS hf hk hst hw (c_X11_in1 l g x 0 3) (va_cwS 3 hts gX11_isSheet_X11_in1 rfl rfl rfl hdS_X11_in1 ⟨Nat.le_of_ble_eq_true rfl, Nat.le_of_ble_eq_true rfl⟩) [] rfl rfl rfl hl.1 rfl (Nat.le_of_ble_eq_true rfl) dX11_isSheet_3 ⟨Nat.zero_le _, Nat.zero_le _⟩ (W' := []) rfl (fun H locs hw => ?_)
  exact re_z hf hr hlk hw (nar_z (nO_01 _ _ _)) (rfl) (rfl) dX11_isSheet_6
set_option maxHeartbeats 4000000 in
set_option maxRecDepth 100000 in
theorem c_X11_getN (l : Launch) (g : GG) (oh : Nat) (os : Nat) (ok : Nat) (ol : Nat) (ord : Nat) (odd : Nat) (otp : Nat) (olt : Nat) (orw : Nat) (oso : Nat) (osz : Nat) (oit : Nat) (oho : Nat) (ohe : Nat) (otr : Nat) (stp : Nat) (laws : Nat → Int32) (z : Int32) (cnt : Nat) (fogs : Nat → Int32) (arms : Nat → Int32) (kinds : Nat → Int32) (faiths : Nat → Int32) (places : Nat → Int32) (moved : Nat → Int32) (isk : Int32) (tpd : Nat) (oat : Int32) (obg : Int32) (otk : Int32) (ovl : Int32) (rmn : Nat) (tcd : Nat) (own_ : Int32) (opt : Int32) (k : Nat) (fd : Nat) (hk8 : k < 8) (hfd : fd < 4) : mt l g yX11_get wsX11_get rmX11_get [.ref oh, .int (nI k), .int (nI fd)] [cob oh 11 [.ref os, .ref ok, .ref ol, .ref ord, .int isk, .ref odd, .ref otp, .int (nI tpd), .ref olt, .int oat, .int obg, .int otk, .int ovl, .ref orw, .int (nI rmn), .ref oso, .ref osz, .ref oit, .ref oho, .ref ohe, .ref otr, .int (nI tcd), .int own_, .int opt], cin g os 51 (mR stp laws z cnt fogs arms kinds faiths places moved)] (some (.int ((mR stp laws z cnt fogs arms kinds faiths places moved) (19 + 4 * k + fd)))) [cob oh 11 [.ref os, .ref ok, .ref ol, .ref ord, .int isk, .ref odd, .ref otp, .int (nI tpd), .ref olt, .int oat, .int obg, .int otk, .int ovl, .ref orw, .int (nI rmn), .ref oso, .ref osz, .ref oit, .ref oho, .ref ohe, .ref otr, .int (nI tcd), .int own_, .int opt], cin g os 51 (mR stp laws z cnt fogs arms kinds faiths places moved)] := by
  refine mt.of (cc := cX11_get) (nL := 3) (ret := (some .int)) (own := RX11) (by decide +kernel) rfl rfl (show ([oh, os] : List Nat) = [oh, os] from rfl) (Nat.le_of_ble_eq_true rfl) (fun p e s m below meth c hf hr hlk _ hk hst hw ls hl => ?_)
  have hx := hf.1
  have hb := hf.2.1
  have hts := hf.2.2.2.2
  have hl : lv_has ls 3 [(0, .ref oh), (1, .int (nI k)), (2, .int (nI fd))] := hl
  have hinX11 : ∀ w ∈ u_ws RX11 TX11 24, w ∈ wsX11_get := fun w h => List.mem_cons_of_mem _ (List.mem_append_right _ h)
  have w_0 : Cond.fieldLink RX11 9 "LightManModel" "s" "[I" ∈ wsX11_get := List.mem_of_getElem? (i := 1) rfl
  refine lv_aload_n hx hb dX11_get_0 rfl (lv_at hl 0 rfl) ?_
  refine rg hf hk hw hinX11 0 rfl rfl 0 (by decide) w_0 rfl dX11_get_1 ?_
  refine lv_bipush (v := 19) hx hb dX11_get_4 (by decide) ?_
  refine lv_iconst (v := 4) hx hb dX11_get_6 (by decide) ?_
  refine lv_iload_n hx hb dX11_get_7 rfl (lv_at hl 1 rfl) ?_
  refine lv_imul hx hb dX11_get_8 ?_
  refine lv_tope (y := nI (4 * k)) (pk_mul 4 k) ?_
  refine lv_iadd hx hb dX11_get_9 ?_
  refine lv_tope (y := nI (19 + 4 * k)) (nI_add 19 _) ?_
  refine lv_iload_n hx hb dX11_get_10 rfl (lv_at hl 2 rfl) ?_
  refine lv_iadd hx hb dX11_get_11 ?_
  refine lv_tope (y := nI (19 + 4 * k + fd)) (nI_add _ fd) ?_
  refine rij hf hk hw 1 rfl (j := 19 + 4 * k + fd) (vp_in_nI (by omega) (by omega)) (nI_clamp (by omega)) dX11_get_12 ?_
  exact re_i hf hr hlk hw (rfl) (rfl) dX11_get_13
theorem hdS_X11_isLaw : yX11_isLaw.cls ≠ "java/lang/invoke/MethodHandle" ∧ yX11_isLaw.cls ≠ "java/lang/invoke/VarHandle" ∧ (parseMethodDescriptor yX11_isLaw.desc).map (fun d => d.parameters.length) = some 1 := by decide +kernel
theorem hdV_X11_becomes : yX11_becomes.cls = RX11 ∧ yX11_becomes.cls ≠ "java/lang/invoke/MethodHandle" ∧ yX11_becomes.cls ≠ "java/lang/invoke/VarHandle" ∧ (parseMethodDescriptor yX11_becomes.desc).map (fun d => d.parameters.length) = some 2 := by decide +kernel
def f_X11_set (laws : Nat → Int32) (law : Int32) (v : Int32) : Int32 := if (nO law 0 3) = 0 then (-1) else (if (nI (ix law)) = 0 then (if (nO v 0 9) = 0 then (-1) else (laws (ix law))) else (if (nO v 0 99) = 0 then (-1) else (laws (ix law))))
def f_X11_set_w1 (laws : Nat → Int32) (law : Int32) (v : Int32) : Nat → Int32 := if (nO law 0 3) = 0 then laws else (if (nI (ix law)) = 0 then (if (nO v 0 9) = 0 then laws else (upd laws (ix law) v)) else (if (nO v 0 99) = 0 then laws else (upd laws (ix law) v)))
abbrev rmX11_set : Room := { frames := 2, cells := 0, slots := 0, locals := 42 }
set_option maxHeartbeats 4000000 in
set_option maxRecDepth 100000 in
theorem c_X11_set (l : Launch) (g : GG) (oh : Nat) (os : Nat) (ok : Nat) (ol : Nat) (ord : Nat) (odd : Nat) (otp : Nat) (olt : Nat) (orw : Nat) (oso : Nat) (osz : Nat) (oit : Nat) (oho : Nat) (ohe : Nat) (otr : Nat) (stp : Nat) (laws : Nat → Int32) (z : Int32) (cnt : Nat) (fogs : Nat → Int32) (arms : Nat → Int32) (kinds : Nat → Int32) (faiths : Nat → Int32) (places : Nat → Int32) (moved : Nat → Int32) (isk : Int32) (tpd : Nat) (oat : Int32) (obg : Int32) (otk : Int32) (ovl : Int32) (rmn : Nat) (tcd : Nat) (own_ : Int32) (opt : Int32) (law : Int32) (v : Int32) : mtR l g yX11_set wsX11_set rmX11_set [.ref oh, .int law, .int v] [cob oh 11 [.ref os, .ref ok, .ref ol, .ref ord, .int isk, .ref odd, .ref otp, .int (nI tpd), .ref olt, .int oat, .int obg, .int otk, .int ovl, .ref orw, .int (nI rmn), .ref oso, .ref osz, .ref oit, .ref oho, .ref ohe, .ref otr, .int (nI tcd), .int own_, .int opt], cin g os 51 (mR stp laws z cnt fogs arms kinds faiths places moved)] (fun rv W => rv = (some (.int (f_X11_set laws law v))) ∧ W = [cob oh 11 [.ref os, .ref ok, .ref ol, .ref ord, .int isk, .ref odd, .ref otp, .int (nI tpd), .ref olt, .int oat, .int obg, .int otk, .int ovl, .ref orw, .int (nI rmn), .ref oso, .ref osz, .ref oit, .ref oho, .ref ohe, .ref otr, .int (nI tcd), .int own_, .int opt], cin g os 51 (mR stp (f_X11_set_w1 laws law v) z cnt fogs arms kinds faiths places moved)]) := by
  refine mtR.of (cc := cX11_set) (nL := 3) (ret := (some .int)) (own := RX11) (by decide +kernel) rfl rfl (Nat.le_of_ble_eq_true rfl) (fun p e s m below meth c hf hr hlk _ hk hst hw ls hl => ?_)
  have hx := hf.1
  have hb := hf.2.1
  have hts := hf.2.2.2.2
  have hl : lv_has ls 3 [(0, .ref oh), (1, .int law), (2, .int v)] := hl
  refine lv_iload_n hx hb dX11_set_0 rfl (lv_at hl 1 rfl) ?_
  refine mcS hf hk hst hw (c_X11_isLaw l g law) (va_cwS 1 hts gX11_set_X11_isLaw rfl rfl rfl hdS_X11_isLaw ⟨Nat.le_of_ble_eq_true rfl, Nat.le_of_ble_eq_true rfl⟩) [] rfl rfl rfl hl.1 rfl (Nat.le_of_ble_eq_true rfl) dX11_set_1 ⟨Nat.zero_le _, Nat.zero_le _⟩ (W' := [cob oh 11 [.ref os, .ref ok, .ref ol, .ref ord, .int isk, .ref odd, .ref otp, .int (nI tpd), .ref olt, .int oat, .int obg, .int otk, .int ovl, .ref orw, .int (nI rmn), .ref oso, .ref osz, .ref oit, .ref oho, .ref ohe, .ref otr, .int (nI tcd), .int own_, .int opt], cin g os 51 (mR stp laws z cnt fogs arms kinds faiths places moved)]) rfl (fun H locs hw => ?_)
  refine lv_if_eq (tgt := 37) hx hb dX11_set_4 (by decide) (fun c_1 => ?_) (fun c_1 => ?_)
  · refine lv_iconst (v := (-1)) hx hb dX11_set_37 (by decide) ?_
    exact rE_i hf hr hlk hw ⟨congrArg some (by simp only [f_X11_set, if_pos c_1]), by simp only [f_X11_set_w1, if_pos c_1]⟩ (show ([oh, os] : List Nat) = [oh, os] from rfl) dX11_set_38
  · have hn := out_n (N := 3) (by decide) (nO_1 c_1)
    have hn2 := hn.2
    refine lv_iload_n hx hb dX11_set_7 rfl (lv_at hl 2 rfl) ?_
    refine lv_iconst (v := 0) hx hb dX11_set_8 (by decide) ?_
    refine lv_iload_n hx hb dX11_set_9 rfl (lv_at hl 1 rfl) ?_
    refine lv_tope (y := nI (ix law)) hn.1 ?_
    refine lv_if_ne (tgt := 18) hx hb dX11_set_10 (by decide) (fun c_2 => ?_) (fun c_2 => ?_)
    · refine lv_bipush (v := 99) hx hb dX11_set_18 (by decide) ?_
      refine mcS hf hk hst hw (c_X11_in1 l g v 0 99) (va_cwS 3 hts gX11_set_X11_in1 rfl rfl rfl hdS_X11_in1 ⟨Nat.le_of_ble_eq_true rfl, Nat.le_of_ble_eq_true rfl⟩) [] rfl rfl rfl hl.1 rfl (Nat.le_of_ble_eq_true rfl) dX11_set_20 ⟨Nat.zero_le _, Nat.zero_le _⟩ (W' := [cob oh 11 [.ref os, .ref ok, .ref ol, .ref ord, .int isk, .ref odd, .ref otp, .int (nI tpd), .ref olt, .int oat, .int obg, .int otk, .int ovl, .ref orw, .int (nI rmn), .ref oso, .ref osz, .ref oit, .ref oho, .ref ohe, .ref otr, .int (nI tcd), .int own_, .int opt], cin g os 51 (mR stp laws z cnt fogs arms kinds faiths places moved)]) rfl (fun H locs hw => ?_)
      refine lv_if_eq (tgt := 37) hx hb dX11_set_23 (by decide) (fun c_3 => ?_) (fun c_3 => ?_)
      · refine lv_iconst (v := (-1)) hx hb dX11_set_37 (by decide) ?_
        exact rE_i hf hr hlk hw ⟨congrArg some (by simp only [f_X11_set, if_neg c_1, if_neg c_2, if_pos c_3]), by simp only [f_X11_set_w1, if_neg c_1, if_neg c_2, if_pos c_3]⟩ (show ([oh, os] : List Nat) = [oh, os] from rfl) dX11_set_38
      · refine lv_aload_n hx hb dX11_set_26 rfl (lv_at hl 0 rfl) ?_
        refine lv_iconst (v := 1) hx hb dX11_set_27 (by decide) ?_
        refine lv_iload_n hx hb dX11_set_28 rfl (lv_at hl 1 rfl) ?_
        refine lv_tope (y := nI (ix law)) hn.1 ?_
        refine lv_iadd hx hb dX11_set_29 ?_
        refine lv_tope (y := nI (1 + (ix law))) (nI_add 1 _) ?_
        refine lv_iload_n hx hb dX11_set_30 rfl (lv_at hl 2 rfl) ?_
        refine mcV hf hk hst hw (c_X11_becomes0 l g oh os ok ol ord odd otp olt orw oso osz oit oho ohe otr stp laws z cnt fogs arms kinds faiths places moved isk tpd oat obg otk ovl rmn tcd own_ opt (ix law) v (by omega)) (cwV 2 hts gX11_set_X11_becomes rfl rfl rfl hdV_X11_becomes ⟨Nat.le_of_ble_eq_true rfl, Nat.le_of_ble_eq_true rfl⟩) [0, 1] rfl rfl 0 rfl rfl rfl hl.1 rfl (Nat.le_of_ble_eq_true rfl) dX11_set_31 ⟨Nat.zero_le _, Nat.zero_le _⟩ (W' := [cob oh 11 [.ref os, .ref ok, .ref ol, .ref ord, .int isk, .ref odd, .ref otp, .int (nI tpd), .ref olt, .int oat, .int obg, .int otk, .int ovl, .ref orw, .int (nI rmn), .ref oso, .ref osz, .ref oit, .ref oho, .ref ohe, .ref otr, .int (nI tcd), .int own_, .int opt], cin g os 51 (mR stp (upd laws (ix law) v) z cnt fogs arms kinds faiths places moved)]) rfl (fun H locs hw => ?_)
        refine lv_goto (tgt := 38) hx hb dX11_set_34 (by decide) ?_
        exact rE_i hf hr hlk hw ⟨congrArg some (by simp only [f_X11_set, if_neg c_1, if_neg c_2, if_neg c_3]), by simp only [f_X11_set_w1, if_neg c_1, if_neg c_2, if_neg c_3]⟩ (show ([oh, os] : List Nat) = [oh, os] from rfl) dX11_set_38
    · refine lv_bipush (v := 9) hx hb dX11_set_13 (by decide) ?_
      refine lv_goto (tgt := 20) hx hb dX11_set_15 (by decide) ?_
      refine mcS hf hk hst hw (c_X11_in1 l g v 0 9) (va_cwS 3 hts gX11_set_X11_in1 rfl rfl rfl hdS_X11_in1 ⟨Nat.le_of_ble_eq_true rfl, Nat.le_of_ble_eq_true rfl⟩) [] rfl rfl rfl hl.1 rfl (Nat.le_of_ble_eq_true rfl) dX11_set_20 ⟨Nat.zero_le _, Nat.zero_le _⟩ (W' := [cob oh 11 [.ref os, .ref ok, .ref ol, .ref ord, .int isk, .ref odd, .ref otp, .int (nI tpd), .ref olt, .int oat, .int obg, .int otk, .int ovl, .ref orw, .int (nI rmn), .ref oso, .ref osz, .ref oit, .ref oho, .ref ohe, .ref otr, .int (nI tcd), .int own_, .int opt], cin g os 51 (mR stp laws z cnt fogs arms kinds faiths places moved)]) rfl (fun H locs hw => ?_)
      refine lv_if_eq (tgt := 37) hx hb dX11_set_23 (by decide) (fun c_4 => ?_) (fun c_4 => ?_)
      · refine lv_iconst (v := (-1)) hx hb dX11_set_37 (by decide) ?_
        exact rE_i hf hr hlk hw ⟨congrArg some (by simp only [f_X11_set, if_neg c_1, if_pos c_2, if_pos c_4]), by simp only [f_X11_set_w1, if_neg c_1, if_pos c_2, if_pos c_4]⟩ (show ([oh, os] : List Nat) = [oh, os] from rfl) dX11_set_38
      · refine lv_aload_n hx hb dX11_set_26 rfl (lv_at hl 0 rfl) ?_
        refine lv_iconst (v := 1) hx hb dX11_set_27 (by decide) ?_
        refine lv_iload_n hx hb dX11_set_28 rfl (lv_at hl 1 rfl) ?_
        refine lv_tope (y := nI (ix law)) hn.1 ?_
        refine lv_iadd hx hb dX11_set_29 ?_
        refine lv_tope (y := nI (1 + (ix law))) (nI_add 1 _) ?_
        refine lv_iload_n hx hb dX11_set_30 rfl (lv_at hl 2 rfl) ?_
        refine mcV hf hk hst hw (c_X11_becomes0 l g oh os ok ol ord odd otp olt orw oso osz oit oho ohe otr stp laws z cnt fogs arms kinds faiths places moved isk tpd oat obg otk ovl rmn tcd own_ opt (ix law) v (by omega)) (cwV 2 hts gX11_set_X11_becomes rfl rfl rfl hdV_X11_becomes ⟨Nat.le_of_ble_eq_true rfl, Nat.le_of_ble_eq_true rfl⟩) [0, 1] rfl rfl 0 rfl rfl rfl hl.1 rfl (Nat.le_of_ble_eq_true rfl) dX11_set_31 ⟨Nat.zero_le _, Nat.zero_le _⟩ (W' := [cob oh 11 [.ref os, .ref ok, .ref ol, .ref ord, .int isk, .ref odd, .ref otp, .int (nI tpd), .ref olt, .int oat, .int obg, .int otk, .int ovl, .ref orw, .int (nI rmn), .ref oso, .ref osz, .ref oit, .ref oho, .ref ohe, .ref otr, .int (nI tcd), .int own_, .int opt], cin g os 51 (mR stp (upd laws (ix law) v) z cnt fogs arms kinds faiths places moved)]) rfl (fun H locs hw => ?_)
        refine lv_goto (tgt := 38) hx hb dX11_set_34 (by decide) ?_
        exact rE_i hf hr hlk hw ⟨congrArg some (by simp only [f_X11_set, if_neg c_1, if_pos c_2, if_neg c_4]), by simp only [f_X11_set_w1, if_neg c_1, if_pos c_2, if_neg c_4]⟩ (show ([oh, os] : List Nat) = [oh, os] from rfl) dX11_set_38
def f_X11_lawOf (laws : Nat → Int32) (law : Int32) : Int32 := if (nO law 0 3) = 0 then (-1) else (laws (ix law))
abbrev rmX11_lawOf : Room := { frames := 2, cells := 0, slots := 0, locals := 42 }
set_option maxHeartbeats 4000000 in
set_option maxRecDepth 100000 in
theorem c_X11_lawOf (l : Launch) (g : GG) (oh : Nat) (os : Nat) (ok : Nat) (ol : Nat) (ord : Nat) (odd : Nat) (otp : Nat) (olt : Nat) (orw : Nat) (oso : Nat) (osz : Nat) (oit : Nat) (oho : Nat) (ohe : Nat) (otr : Nat) (stp : Nat) (laws : Nat → Int32) (z : Int32) (cnt : Nat) (fogs : Nat → Int32) (arms : Nat → Int32) (kinds : Nat → Int32) (faiths : Nat → Int32) (places : Nat → Int32) (moved : Nat → Int32) (isk : Int32) (tpd : Nat) (oat : Int32) (obg : Int32) (otk : Int32) (ovl : Int32) (rmn : Nat) (tcd : Nat) (own_ : Int32) (opt : Int32) (law : Int32) : mtR l g yX11_lawOf wsX11_lawOf rmX11_lawOf [.ref oh, .int law] [cob oh 11 [.ref os, .ref ok, .ref ol, .ref ord, .int isk, .ref odd, .ref otp, .int (nI tpd), .ref olt, .int oat, .int obg, .int otk, .int ovl, .ref orw, .int (nI rmn), .ref oso, .ref osz, .ref oit, .ref oho, .ref ohe, .ref otr, .int (nI tcd), .int own_, .int opt], cin g os 51 (mR stp laws z cnt fogs arms kinds faiths places moved)] (fun rv W => rv = (some (.int (f_X11_lawOf laws law))) ∧ W = [cob oh 11 [.ref os, .ref ok, .ref ol, .ref ord, .int isk, .ref odd, .ref otp, .int (nI tpd), .ref olt, .int oat, .int obg, .int otk, .int ovl, .ref orw, .int (nI rmn), .ref oso, .ref osz, .ref oit, .ref oho, .ref ohe, .ref otr, .int (nI tcd), .int own_, .int opt], cin g os 51 (mR stp laws z cnt fogs arms kinds faiths places moved)]) := by
  refine mtR.of (cc := cX11_lawOf) (nL := 2) (ret := (some .int)) (own := RX11) (by decide +kernel) rfl rfl (Nat.le_of_ble_eq_true rfl) (fun p e s m below meth c hf hr hlk _ hk hst hw ls hl => ?_)
  have hx := hf.1
  have hb := hf.2.1
  have hts := hf.2.2.2.2
  have hl : lv_has ls 2 [(0, .ref oh), (1, .int law)] := hl
  have hinX11 : ∀ w ∈ u_ws RX11 TX11 24, w ∈ wsX11_lawOf := fun w h => List.mem_cons_of_mem _ (List.mem_append_right _ h)
  have w_0 : Cond.fieldLink RX11 9 "LightManModel" "s" "[I" ∈ wsX11_lawOf := List.mem_of_getElem? (i := 1) rfl
  refine lv_iload_n hx hb dX11_lawOf_0 rfl (lv_at hl 1 rfl) ?_
  refine mcS hf hk hst hw (c_X11_isLaw l g law) (va_cwS 1 hts gX11_lawOf_X11_isLaw rfl rfl rfl hdS_X11_isLaw ⟨Nat.le_of_ble_eq_true rfl, Nat.le_of_ble_eq_true rfl⟩) [] rfl rfl rfl hl.1 rfl (Nat.le_of_ble_eq_true rfl) dX11_lawOf_1 ⟨Nat.zero_le _, Nat.zero_le _⟩ (W' := [cob oh 11 [.ref os, .ref ok, .ref ol, .ref ord, .int isk, .ref odd, .ref otp, .int (nI tpd), .ref olt, .int oat, .int obg, .int otk, .int ovl, .ref orw, .int (nI rmn), .ref oso, .ref osz, .ref oit, .ref oho, .ref ohe, .ref otr, .int (nI tcd), .int own_, .int opt], cin g os 51 (mR stp laws z cnt fogs arms kinds faiths places moved)]) rfl (fun H locs hw => ?_)
  refine lv_if_eq (tgt := 18) hx hb dX11_lawOf_4 (by decide) (fun c_1 => ?_) (fun c_1 => ?_)
  · refine lv_iconst (v := (-1)) hx hb dX11_lawOf_18 (by decide) ?_
    exact rE_i hf hr hlk hw ⟨congrArg some (by simp only [f_X11_lawOf, if_pos c_1]), rfl⟩ (show ([oh, os] : List Nat) = [oh, os] from rfl) dX11_lawOf_19
  · have hn := out_n (N := 3) (by decide) (nO_1 c_1)
    have hn2 := hn.2
    refine lv_aload_n hx hb dX11_lawOf_7 rfl (lv_at hl 0 rfl) ?_
    refine rg hf hk hw hinX11 0 rfl rfl 0 (by decide) w_0 rfl dX11_lawOf_8 ?_
    refine lv_iconst (v := 1) hx hb dX11_lawOf_11 (by decide) ?_
    refine lv_iload_n hx hb dX11_lawOf_12 rfl (lv_at hl 1 rfl) ?_
    refine lv_tope (y := nI (ix law)) hn.1 ?_
    refine lv_iadd hx hb dX11_lawOf_13 ?_
    refine lv_tope (y := nI (1 + (ix law))) (nI_add 1 _) ?_
    refine rij hf hk hw 1 rfl (j := 1 + (ix law)) (vp_in_nI (by omega) (by omega)) (nI_clamp (by omega)) dX11_lawOf_14 ?_
    refine lv_tope (y := laws (ix law)) (mR_law (by omega)) ?_
    refine lv_goto (tgt := 19) hx hb dX11_lawOf_15 (by decide) ?_
    exact rE_i hf hr hlk hw ⟨congrArg some (by simp only [f_X11_lawOf, if_neg c_1]), rfl⟩ (show ([oh, os] : List Nat) = [oh, os] from rfl) dX11_lawOf_19
theorem hdS_X11_isRest : yX11_isRest.cls ≠ "java/lang/invoke/MethodHandle" ∧ yX11_isRest.cls ≠ "java/lang/invoke/VarHandle" ∧ (parseMethodDescriptor yX11_isRest.desc).map (fun d => d.parameters.length) = some 1 := by decide +kernel
def f_X11_roster (fogs : Nat → Int32) (arms : Nat → Int32) (rest : Int32) (what : Int32) (v : Int32) : Int32 := if (nO rest 0 5) = 0 then (-1) else (if (nO what 0 1) = 0 then (-1) else (if (nO v 0 9) = 0 then (-1) else (if what = 0 then (fogs (ix rest)) else (arms (ix rest)))))
def f_X11_roster_w1 (fogs : Nat → Int32) (rest : Int32) (what : Int32) (v : Int32) : Nat → Int32 := if (nO rest 0 5) = 0 then fogs else (if (nO what 0 1) = 0 then fogs else (if (nO v 0 9) = 0 then fogs else (if what = 0 then (upd fogs (ix rest) v) else fogs)))
def f_X11_roster_w2 (arms : Nat → Int32) (rest : Int32) (what : Int32) (v : Int32) : Nat → Int32 := if (nO rest 0 5) = 0 then arms else (if (nO what 0 1) = 0 then arms else (if (nO v 0 9) = 0 then arms else (if what = 0 then arms else (upd arms (ix rest) v))))
abbrev rmX11_roster : Room := { frames := 2, cells := 0, slots := 0, locals := 42 }
set_option maxHeartbeats 4000000 in
set_option maxRecDepth 100000 in
theorem c_X11_roster (l : Launch) (g : GG) (oh : Nat) (os : Nat) (ok : Nat) (ol : Nat) (ord : Nat) (odd : Nat) (otp : Nat) (olt : Nat) (orw : Nat) (oso : Nat) (osz : Nat) (oit : Nat) (oho : Nat) (ohe : Nat) (otr : Nat) (stp : Nat) (laws : Nat → Int32) (z : Int32) (cnt : Nat) (fogs : Nat → Int32) (arms : Nat → Int32) (kinds : Nat → Int32) (faiths : Nat → Int32) (places : Nat → Int32) (moved : Nat → Int32) (isk : Int32) (tpd : Nat) (oat : Int32) (obg : Int32) (otk : Int32) (ovl : Int32) (rmn : Nat) (tcd : Nat) (own_ : Int32) (opt : Int32) (rest : Int32) (what : Int32) (v : Int32) : mtR l g yX11_roster wsX11_roster rmX11_roster [.ref oh, .int rest, .int what, .int v] [cob oh 11 [.ref os, .ref ok, .ref ol, .ref ord, .int isk, .ref odd, .ref otp, .int (nI tpd), .ref olt, .int oat, .int obg, .int otk, .int ovl, .ref orw, .int (nI rmn), .ref oso, .ref osz, .ref oit, .ref oho, .ref ohe, .ref otr, .int (nI tcd), .int own_, .int opt], cin g os 51 (mR stp laws z cnt fogs arms kinds faiths places moved)] (fun rv W => rv = (some (.int (f_X11_roster fogs arms rest what v))) ∧ W = [cob oh 11 [.ref os, .ref ok, .ref ol, .ref ord, .int isk, .ref odd, .ref otp, .int (nI tpd), .ref olt, .int oat, .int obg, .int otk, .int ovl, .ref orw, .int (nI rmn), .ref oso, .ref osz, .ref oit, .ref oho, .ref ohe, .ref otr, .int (nI tcd), .int own_, .int opt], cin g os 51 (mR stp laws z cnt (f_X11_roster_w1 fogs rest what v) (f_X11_roster_w2 arms rest what v) kinds faiths places moved)]) := by
  refine mtR.of (cc := cX11_roster) (nL := 4) (ret := (some .int)) (own := RX11) (by decide +kernel) rfl rfl (Nat.le_of_ble_eq_true rfl) (fun p e s m below meth c hf hr hlk _ hk hst hw ls hl => ?_)
  have hx := hf.1
  have hb := hf.2.1
  have hts := hf.2.2.2.2
  have hl : lv_has ls 4 [(0, .ref oh), (1, .int rest), (2, .int what), (3, .int v)] := hl
  refine lv_iload_n hx hb dX11_roster_0 rfl (lv_at hl 1 rfl) ?_
  refine mcS hf hk hst hw (c_X11_isRest l g rest) (va_cwS 1 hts gX11_roster_X11_isRest rfl rfl rfl hdS_X11_isRest ⟨Nat.le_of_ble_eq_true rfl, Nat.le_of_ble_eq_true rfl⟩) [] rfl rfl rfl hl.1 rfl (Nat.le_of_ble_eq_true rfl) dX11_roster_1 ⟨Nat.zero_le _, Nat.zero_le _⟩ (W' := [cob oh 11 [.ref os, .ref ok, .ref ol, .ref ord, .int isk, .ref odd, .ref otp, .int (nI tpd), .ref olt, .int oat, .int obg, .int otk, .int ovl, .ref orw, .int (nI rmn), .ref oso, .ref osz, .ref oit, .ref oho, .ref ohe, .ref otr, .int (nI tcd), .int own_, .int opt], cin g os 51 (mR stp laws z cnt fogs arms kinds faiths places moved)]) rfl (fun H locs hw => ?_)
  refine lv_if_eq (tgt := 47) hx hb dX11_roster_4 (by decide) (fun c_1 => ?_) (fun c_1 => ?_)
  · refine lv_iconst (v := (-1)) hx hb dX11_roster_47 (by decide) ?_
    exact rE_i hf hr hlk hw ⟨congrArg some (by simp only [f_X11_roster, if_pos c_1]), by simp only [f_X11_roster_w1, f_X11_roster_w2, if_pos c_1]⟩ (show ([oh, os] : List Nat) = [oh, os] from rfl) dX11_roster_48
  · have hn := out_n (N := 5) (by decide) (nO_1 c_1)
    have hn2 := hn.2
    refine lv_iload_n hx hb dX11_roster_7 rfl (lv_at hl 2 rfl) ?_
    refine lv_iconst (v := 0) hx hb dX11_roster_8 (by decide) ?_
    refine lv_iconst (v := 1) hx hb dX11_roster_9 (by decide) ?_
    refine mcS hf hk hst hw (c_X11_in1 l g what 0 1) (va_cwS 3 hts gX11_roster_X11_in1 rfl rfl rfl hdS_X11_in1 ⟨Nat.le_of_ble_eq_true rfl, Nat.le_of_ble_eq_true rfl⟩) [] rfl rfl rfl hl.1 rfl (Nat.le_of_ble_eq_true rfl) dX11_roster_10 ⟨Nat.zero_le _, Nat.zero_le _⟩ (W' := [cob oh 11 [.ref os, .ref ok, .ref ol, .ref ord, .int isk, .ref odd, .ref otp, .int (nI tpd), .ref olt, .int oat, .int obg, .int otk, .int ovl, .ref orw, .int (nI rmn), .ref oso, .ref osz, .ref oit, .ref oho, .ref ohe, .ref otr, .int (nI tcd), .int own_, .int opt], cin g os 51 (mR stp laws z cnt fogs arms kinds faiths places moved)]) rfl (fun H locs hw => ?_)
    refine lv_if_eq (tgt := 47) hx hb dX11_roster_13 (by decide) (fun c_2 => ?_) (fun c_2 => ?_)
    · refine lv_iconst (v := (-1)) hx hb dX11_roster_47 (by decide) ?_
      exact rE_i hf hr hlk hw ⟨congrArg some (by simp only [f_X11_roster, if_neg c_1, if_pos c_2]), by simp only [f_X11_roster_w1, f_X11_roster_w2, if_neg c_1, if_pos c_2]⟩ (show ([oh, os] : List Nat) = [oh, os] from rfl) dX11_roster_48
    · refine lv_iload_n hx hb dX11_roster_16 rfl (lv_at hl 3 rfl) ?_
      refine lv_iconst (v := 0) hx hb dX11_roster_17 (by decide) ?_
      refine lv_bipush (v := 9) hx hb dX11_roster_18 (by decide) ?_
      refine mcS hf hk hst hw (c_X11_in1 l g v 0 9) (va_cwS 3 hts gX11_roster_X11_in1 rfl rfl rfl hdS_X11_in1 ⟨Nat.le_of_ble_eq_true rfl, Nat.le_of_ble_eq_true rfl⟩) [] rfl rfl rfl hl.1 rfl (Nat.le_of_ble_eq_true rfl) dX11_roster_20 ⟨Nat.zero_le _, Nat.zero_le _⟩ (W' := [cob oh 11 [.ref os, .ref ok, .ref ol, .ref ord, .int isk, .ref odd, .ref otp, .int (nI tpd), .ref olt, .int oat, .int obg, .int otk, .int ovl, .ref orw, .int (nI rmn), .ref oso, .ref osz, .ref oit, .ref oho, .ref ohe, .ref otr, .int (nI tcd), .int own_, .int opt], cin g os 51 (mR stp laws z cnt fogs arms kinds faiths places moved)]) rfl (fun H locs hw => ?_)
      refine lv_if_eq (tgt := 47) hx hb dX11_roster_23 (by decide) (fun c_3 => ?_) (fun c_3 => ?_)
      · refine lv_iconst (v := (-1)) hx hb dX11_roster_47 (by decide) ?_
        exact rE_i hf hr hlk hw ⟨congrArg some (by simp only [f_X11_roster, if_neg c_1, if_neg c_2, if_pos c_3]), by simp only [f_X11_roster_w1, f_X11_roster_w2, if_neg c_1, if_neg c_2, if_pos c_3]⟩ (show ([oh, os] : List Nat) = [oh, os] from rfl) dX11_roster_48
      · refine lv_aload_n hx hb dX11_roster_26 rfl (lv_at hl 0 rfl) ?_
        refine lv_iload_n hx hb dX11_roster_27 rfl (lv_at hl 2 rfl) ?_
        refine lv_if_ne (tgt := 36) hx hb dX11_roster_28 (by decide) (fun c_4 => ?_) (fun c_4 => ?_)
        · refine lv_bipush (v := 13) hx hb dX11_roster_36 (by decide) ?_
          refine lv_iload_n hx hb dX11_roster_38 rfl (lv_at hl 1 rfl) ?_
          refine lv_tope (y := nI (ix rest)) hn.1 ?_
          refine lv_iadd hx hb dX11_roster_39 ?_
          refine lv_tope (y := nI (13 + (ix rest))) (nI_add 13 _) ?_
          refine lv_iload_n hx hb dX11_roster_40 rfl (lv_at hl 3 rfl) ?_
          refine mcV hf hk hst hw (c_X11_becomes3 l g oh os ok ol ord odd otp olt orw oso osz oit oho ohe otr stp laws z cnt fogs arms kinds faiths places moved isk tpd oat obg otk ovl rmn tcd own_ opt (ix rest) v (by omega)) (cwV 2 hts gX11_roster_X11_becomes rfl rfl rfl hdV_X11_becomes ⟨Nat.le_of_ble_eq_true rfl, Nat.le_of_ble_eq_true rfl⟩) [0, 1] rfl rfl 0 rfl rfl rfl hl.1 rfl (Nat.le_of_ble_eq_true rfl) dX11_roster_41 ⟨Nat.zero_le _, Nat.zero_le _⟩ (W' := [cob oh 11 [.ref os, .ref ok, .ref ol, .ref ord, .int isk, .ref odd, .ref otp, .int (nI tpd), .ref olt, .int oat, .int obg, .int otk, .int ovl, .ref orw, .int (nI rmn), .ref oso, .ref osz, .ref oit, .ref oho, .ref ohe, .ref otr, .int (nI tcd), .int own_, .int opt], cin g os 51 (mR stp laws z cnt fogs (upd arms (ix rest) v) kinds faiths places moved)]) rfl (fun H locs hw => ?_)
          refine lv_goto (tgt := 48) hx hb dX11_roster_44 (by decide) ?_
          exact rE_i hf hr hlk hw ⟨congrArg some (by simp only [f_X11_roster, if_neg c_1, if_neg c_2, if_neg c_3, if_neg c_4]), by simp only [f_X11_roster_w1, f_X11_roster_w2, if_neg c_1, if_neg c_2, if_neg c_3, if_neg c_4]⟩ (show ([oh, os] : List Nat) = [oh, os] from rfl) dX11_roster_48
        · refine lv_bipush (v := 7) hx hb dX11_roster_31 (by decide) ?_
          refine lv_goto (tgt := 38) hx hb dX11_roster_33 (by decide) ?_
          refine lv_iload_n hx hb dX11_roster_38 rfl (lv_at hl 1 rfl) ?_
          refine lv_tope (y := nI (ix rest)) hn.1 ?_
          refine lv_iadd hx hb dX11_roster_39 ?_
          refine lv_tope (y := nI (7 + (ix rest))) (nI_add 7 _) ?_
          refine lv_iload_n hx hb dX11_roster_40 rfl (lv_at hl 3 rfl) ?_
          refine mcV hf hk hst hw (c_X11_becomes2 l g oh os ok ol ord odd otp olt orw oso osz oit oho ohe otr stp laws z cnt fogs arms kinds faiths places moved isk tpd oat obg otk ovl rmn tcd own_ opt (ix rest) v (by omega)) (cwV 2 hts gX11_roster_X11_becomes rfl rfl rfl hdV_X11_becomes ⟨Nat.le_of_ble_eq_true rfl, Nat.le_of_ble_eq_true rfl⟩) [0, 1] rfl rfl 0 rfl rfl rfl hl.1 rfl (Nat.le_of_ble_eq_true rfl) dX11_roster_41 ⟨Nat.zero_le _, Nat.zero_le _⟩ (W' := [cob oh 11 [.ref os, .ref ok, .ref ol, .ref ord, .int isk, .ref odd, .ref otp, .int (nI tpd), .ref olt, .int oat, .int obg, .int otk, .int ovl, .ref orw, .int (nI rmn), .ref oso, .ref osz, .ref oit, .ref oho, .ref ohe, .ref otr, .int (nI tcd), .int own_, .int opt], cin g os 51 (mR stp laws z cnt (upd fogs (ix rest) v) arms kinds faiths places moved)]) rfl (fun H locs hw => ?_)
          refine lv_goto (tgt := 48) hx hb dX11_roster_44 (by decide) ?_
          exact rE_i hf hr hlk hw ⟨congrArg some (by simp only [f_X11_roster, if_neg c_1, if_neg c_2, if_neg c_3, if_pos c_4]), by simp only [f_X11_roster_w1, f_X11_roster_w2, if_neg c_1, if_neg c_2, if_neg c_3, if_pos c_4]⟩ (show ([oh, os] : List Nat) = [oh, os] from rfl) dX11_roster_48
def f_X11_rosterOf (fogs : Nat → Int32) (arms : Nat → Int32) (rest : Int32) (what : Int32) : Int32 := if (nO rest 0 5) = 0 then (-1) else (if (nO what 0 1) = 0 then (-1) else (if what = 0 then (fogs (ix rest)) else (arms (ix rest))))
abbrev rmX11_rosterOf : Room := { frames := 2, cells := 0, slots := 0, locals := 42 }
set_option maxHeartbeats 4000000 in
set_option maxRecDepth 100000 in
theorem c_X11_rosterOf (l : Launch) (g : GG) (oh : Nat) (os : Nat) (ok : Nat) (ol : Nat) (ord : Nat) (odd : Nat) (otp : Nat) (olt : Nat) (orw : Nat) (oso : Nat) (osz : Nat) (oit : Nat) (oho : Nat) (ohe : Nat) (otr : Nat) (stp : Nat) (laws : Nat → Int32) (z : Int32) (cnt : Nat) (fogs : Nat → Int32) (arms : Nat → Int32) (kinds : Nat → Int32) (faiths : Nat → Int32) (places : Nat → Int32) (moved : Nat → Int32) (isk : Int32) (tpd : Nat) (oat : Int32) (obg : Int32) (otk : Int32) (ovl : Int32) (rmn : Nat) (tcd : Nat) (own_ : Int32) (opt : Int32) (rest : Int32) (what : Int32) : mtR l g yX11_rosterOf wsX11_rosterOf rmX11_rosterOf [.ref oh, .int rest, .int what] [cob oh 11 [.ref os, .ref ok, .ref ol, .ref ord, .int isk, .ref odd, .ref otp, .int (nI tpd), .ref olt, .int oat, .int obg, .int otk, .int ovl, .ref orw, .int (nI rmn), .ref oso, .ref osz, .ref oit, .ref oho, .ref ohe, .ref otr, .int (nI tcd), .int own_, .int opt], cin g os 51 (mR stp laws z cnt fogs arms kinds faiths places moved)] (fun rv W => rv = (some (.int (f_X11_rosterOf fogs arms rest what))) ∧ W = [cob oh 11 [.ref os, .ref ok, .ref ol, .ref ord, .int isk, .ref odd, .ref otp, .int (nI tpd), .ref olt, .int oat, .int obg, .int otk, .int ovl, .ref orw, .int (nI rmn), .ref oso, .ref osz, .ref oit, .ref oho, .ref ohe, .ref otr, .int (nI tcd), .int own_, .int opt], cin g os 51 (mR stp laws z cnt fogs arms kinds faiths places moved)]) := by
  refine mtR.of (cc := cX11_rosterOf) (nL := 3) (ret := (some .int)) (own := RX11) (by decide +kernel) rfl rfl (Nat.le_of_ble_eq_true rfl) (fun p e s m below meth c hf hr hlk _ hk hst hw ls hl => ?_)
  have hx := hf.1
  have hb := hf.2.1
  have hts := hf.2.2.2.2
  have hl : lv_has ls 3 [(0, .ref oh), (1, .int rest), (2, .int what)] := hl
  have hinX11 : ∀ w ∈ u_ws RX11 TX11 24, w ∈ wsX11_rosterOf := fun w h => List.mem_cons_of_mem _ (List.mem_append_right _ h)
  have w_0 : Cond.fieldLink RX11 9 "LightManModel" "s" "[I" ∈ wsX11_rosterOf := List.mem_of_getElem? (i := 1) rfl
  refine lv_iload_n hx hb dX11_rosterOf_0 rfl (lv_at hl 1 rfl) ?_
  refine mcS hf hk hst hw (c_X11_isRest l g rest) (va_cwS 1 hts gX11_rosterOf_X11_isRest rfl rfl rfl hdS_X11_isRest ⟨Nat.le_of_ble_eq_true rfl, Nat.le_of_ble_eq_true rfl⟩) [] rfl rfl rfl hl.1 rfl (Nat.le_of_ble_eq_true rfl) dX11_rosterOf_1 ⟨Nat.zero_le _, Nat.zero_le _⟩ (W' := [cob oh 11 [.ref os, .ref ok, .ref ol, .ref ord, .int isk, .ref odd, .ref otp, .int (nI tpd), .ref olt, .int oat, .int obg, .int otk, .int ovl, .ref orw, .int (nI rmn), .ref oso, .ref osz, .ref oit, .ref oho, .ref ohe, .ref otr, .int (nI tcd), .int own_, .int opt], cin g os 51 (mR stp laws z cnt fogs arms kinds faiths places moved)]) rfl (fun H locs hw => ?_)
  refine lv_if_eq (tgt := 37) hx hb dX11_rosterOf_4 (by decide) (fun c_1 => ?_) (fun c_1 => ?_)
  · refine lv_iconst (v := (-1)) hx hb dX11_rosterOf_37 (by decide) ?_
    exact rE_i hf hr hlk hw ⟨congrArg some (by simp only [f_X11_rosterOf, if_pos c_1]), rfl⟩ (show ([oh, os] : List Nat) = [oh, os] from rfl) dX11_rosterOf_38
  · have hn := out_n (N := 5) (by decide) (nO_1 c_1)
    have hn2 := hn.2
    refine lv_iload_n hx hb dX11_rosterOf_7 rfl (lv_at hl 2 rfl) ?_
    refine lv_iconst (v := 0) hx hb dX11_rosterOf_8 (by decide) ?_
    refine lv_iconst (v := 1) hx hb dX11_rosterOf_9 (by decide) ?_
    refine mcS hf hk hst hw (c_X11_in1 l g what 0 1) (va_cwS 3 hts gX11_rosterOf_X11_in1 rfl rfl rfl hdS_X11_in1 ⟨Nat.le_of_ble_eq_true rfl, Nat.le_of_ble_eq_true rfl⟩) [] rfl rfl rfl hl.1 rfl (Nat.le_of_ble_eq_true rfl) dX11_rosterOf_10 ⟨Nat.zero_le _, Nat.zero_le _⟩ (W' := [cob oh 11 [.ref os, .ref ok, .ref ol, .ref ord, .int isk, .ref odd, .ref otp, .int (nI tpd), .ref olt, .int oat, .int obg, .int otk, .int ovl, .ref orw, .int (nI rmn), .ref oso, .ref osz, .ref oit, .ref oho, .ref ohe, .ref otr, .int (nI tcd), .int own_, .int opt], cin g os 51 (mR stp laws z cnt fogs arms kinds faiths places moved)]) rfl (fun H locs hw => ?_)
    refine lv_if_eq (tgt := 37) hx hb dX11_rosterOf_13 (by decide) (fun c_2 => ?_) (fun c_2 => ?_)
    · refine lv_iconst (v := (-1)) hx hb dX11_rosterOf_37 (by decide) ?_
      exact rE_i hf hr hlk hw ⟨congrArg some (by simp only [f_X11_rosterOf, if_neg c_1, if_pos c_2]), rfl⟩ (show ([oh, os] : List Nat) = [oh, os] from rfl) dX11_rosterOf_38
    · refine lv_aload_n hx hb dX11_rosterOf_16 rfl (lv_at hl 0 rfl) ?_
      refine rg hf hk hw hinX11 0 rfl rfl 0 (by decide) w_0 rfl dX11_rosterOf_17 ?_
      refine lv_iload_n hx hb dX11_rosterOf_20 rfl (lv_at hl 2 rfl) ?_
      refine lv_if_ne (tgt := 29) hx hb dX11_rosterOf_21 (by decide) (fun c_3 => ?_) (fun c_3 => ?_)
      · refine lv_bipush (v := 13) hx hb dX11_rosterOf_29 (by decide) ?_
        refine lv_iload_n hx hb dX11_rosterOf_31 rfl (lv_at hl 1 rfl) ?_
        refine lv_tope (y := nI (ix rest)) hn.1 ?_
        refine lv_iadd hx hb dX11_rosterOf_32 ?_
        refine lv_tope (y := nI (13 + (ix rest))) (nI_add 13 _) ?_
        refine rij hf hk hw 1 rfl (j := 13 + (ix rest)) (vp_in_nI (by omega) (by omega)) (nI_clamp (by omega)) dX11_rosterOf_33 ?_
        refine lv_tope (y := arms (ix rest)) (mR_arm (by omega)) ?_
        refine lv_goto (tgt := 38) hx hb dX11_rosterOf_34 (by decide) ?_
        exact rE_i hf hr hlk hw ⟨congrArg some (by simp only [f_X11_rosterOf, if_neg c_1, if_neg c_2, if_neg c_3]), rfl⟩ (show ([oh, os] : List Nat) = [oh, os] from rfl) dX11_rosterOf_38
      · refine lv_bipush (v := 7) hx hb dX11_rosterOf_24 (by decide) ?_
        refine lv_goto (tgt := 31) hx hb dX11_rosterOf_26 (by decide) ?_
        refine lv_iload_n hx hb dX11_rosterOf_31 rfl (lv_at hl 1 rfl) ?_
        refine lv_tope (y := nI (ix rest)) hn.1 ?_
        refine lv_iadd hx hb dX11_rosterOf_32 ?_
        refine lv_tope (y := nI (7 + (ix rest))) (nI_add 7 _) ?_
        refine rij hf hk hw 1 rfl (j := 7 + (ix rest)) (vp_in_nI (by omega) (by omega)) (nI_clamp (by omega)) dX11_rosterOf_33 ?_
        refine lv_tope (y := fogs (ix rest)) (mR_fog (by omega)) ?_
        refine lv_goto (tgt := 38) hx hb dX11_rosterOf_34 (by decide) ?_
        exact rE_i hf hr hlk hw ⟨congrArg some (by simp only [f_X11_rosterOf, if_neg c_1, if_neg c_2, if_pos c_3]), rfl⟩ (show ([oh, os] : List Nat) = [oh, os] from rfl) dX11_rosterOf_38
def f_X11_goer (cnt : Nat) (kind : Int32) (faith : Int32) (place : Int32) : Int32 := if (nO kind 0 5) = 0 then (-1) else (if (nO faith 0 99) = 0 then (-1) else (if (nO place 0 11) = 0 then (-1) else (if (nI cnt) = 8 then (-2) else (nI cnt))))
def f_X11_goer_w1 (cnt : Nat) (kind : Int32) (faith : Int32) (place : Int32) : Nat := if (nO kind 0 5) = 0 then cnt else (if (nO faith 0 99) = 0 then cnt else (if (nO place 0 11) = 0 then cnt else (if (nI cnt) = 8 then cnt else (cnt + 1))))
def f_X11_goer_w2 (cnt : Nat) (kinds : Nat → Int32) (kind : Int32) (faith : Int32) (place : Int32) : Nat → Int32 := if (nO kind 0 5) = 0 then kinds else (if (nO faith 0 99) = 0 then kinds else (if (nO place 0 11) = 0 then kinds else (if (nI cnt) = 8 then kinds else (upd kinds cnt kind))))
def f_X11_goer_w3 (cnt : Nat) (faiths : Nat → Int32) (kind : Int32) (faith : Int32) (place : Int32) : Nat → Int32 := if (nO kind 0 5) = 0 then faiths else (if (nO faith 0 99) = 0 then faiths else (if (nO place 0 11) = 0 then faiths else (if (nI cnt) = 8 then faiths else (upd faiths cnt faith))))
def f_X11_goer_w4 (cnt : Nat) (places : Nat → Int32) (kind : Int32) (faith : Int32) (place : Int32) : Nat → Int32 := if (nO kind 0 5) = 0 then places else (if (nO faith 0 99) = 0 then places else (if (nO place 0 11) = 0 then places else (if (nI cnt) = 8 then places else (upd places cnt place))))
def f_X11_goer_w5 (cnt : Nat) (moved : Nat → Int32) (kind : Int32) (faith : Int32) (place : Int32) : Nat → Int32 := if (nO kind 0 5) = 0 then moved else (if (nO faith 0 99) = 0 then moved else (if (nO place 0 11) = 0 then moved else (if (nI cnt) = 8 then moved else (upd moved cnt 0))))
abbrev rmX11_goer : Room := { frames := 1, cells := 0, slots := 0, locals := 23 }
set_option maxHeartbeats 4000000 in
set_option maxRecDepth 100000 in
theorem c_X11_goer (l : Launch) (g : GG) (oh : Nat) (os : Nat) (ok : Nat) (ol : Nat) (ord : Nat) (odd : Nat) (otp : Nat) (olt : Nat) (orw : Nat) (oso : Nat) (osz : Nat) (oit : Nat) (oho : Nat) (ohe : Nat) (otr : Nat) (stp : Nat) (laws : Nat → Int32) (z : Int32) (cnt : Nat) (fogs : Nat → Int32) (arms : Nat → Int32) (kinds : Nat → Int32) (faiths : Nat → Int32) (places : Nat → Int32) (moved : Nat → Int32) (isk : Int32) (tpd : Nat) (oat : Int32) (obg : Int32) (otk : Int32) (ovl : Int32) (rmn : Nat) (tcd : Nat) (own_ : Int32) (opt : Int32) (kind : Int32) (faith : Int32) (place : Int32) (hc8 : cnt ≤ 8) : mtR l g yX11_goer wsX11_goer rmX11_goer [.ref oh, .int kind, .int faith, .int place] [cob oh 11 [.ref os, .ref ok, .ref ol, .ref ord, .int isk, .ref odd, .ref otp, .int (nI tpd), .ref olt, .int oat, .int obg, .int otk, .int ovl, .ref orw, .int (nI rmn), .ref oso, .ref osz, .ref oit, .ref oho, .ref ohe, .ref otr, .int (nI tcd), .int own_, .int opt], cin g os 51 (mR stp laws z cnt fogs arms kinds faiths places moved)] (fun rv W => rv = (some (.int (f_X11_goer cnt kind faith place))) ∧ W = [cob oh 11 [.ref os, .ref ok, .ref ol, .ref ord, .int isk, .ref odd, .ref otp, .int (nI tpd), .ref olt, .int oat, .int obg, .int otk, .int ovl, .ref orw, .int (nI rmn), .ref oso, .ref osz, .ref oit, .ref oho, .ref ohe, .ref otr, .int (nI tcd), .int own_, .int opt], cin g os 51 (mR stp laws z (f_X11_goer_w1 cnt kind faith place) fogs arms (f_X11_goer_w2 cnt kinds kind faith place) (f_X11_goer_w3 cnt faiths kind faith place) (f_X11_goer_w4 cnt places kind faith place) (f_X11_goer_w5 cnt moved kind faith place))]) := by
  refine mtR.of (cc := cX11_goer) (nL := 5) (ret := (some .int)) (own := RX11) (by decide +kernel) rfl rfl (Nat.le_of_ble_eq_true rfl) (fun p e s m below meth c hf hr hlk _ hk hst hw ls hl => ?_)
  have hx := hf.1
  have hb := hf.2.1
  have hts := hf.2.2.2.2
  have hl : lv_has ls 5 [(0, .ref oh), (1, .int kind), (2, .int faith), (3, .int place)] := hl
  have hinX11 : ∀ w ∈ u_ws RX11 TX11 24, w ∈ wsX11_goer := fun w h => List.mem_cons_of_mem _ (List.mem_append_right _ h)
  have w_0 : Cond.fieldLink RX11 9 "LightManModel" "s" "[I" ∈ wsX11_goer := List.mem_of_getElem? (i := 1) rfl
  refine lv_iload_n hx hb dX11_goer_0 rfl (lv_at hl 1 rfl) ?_
  refine lv_iconst (v := 0) hx hb dX11_goer_1 (by decide) ?_
  refine lv_iconst (v := 5) hx hb dX11_goer_2 (by decide) ?_
  refine mcS hf hk hst hw (c_X11_in1 l g kind 0 5) (va_cwS 3 hts gX11_goer_X11_in1 rfl rfl rfl hdS_X11_in1 ⟨Nat.le_of_ble_eq_true rfl, Nat.le_of_ble_eq_true rfl⟩) [] rfl rfl rfl hl.1 rfl (Nat.le_of_ble_eq_true rfl) dX11_goer_3 ⟨Nat.zero_le _, Nat.zero_le _⟩ (W' := [cob oh 11 [.ref os, .ref ok, .ref ol, .ref ord, .int isk, .ref odd, .ref otp, .int (nI tpd), .ref olt, .int oat, .int obg, .int otk, .int ovl, .ref orw, .int (nI rmn), .ref oso, .ref osz, .ref oit, .ref oho, .ref ohe, .ref otr, .int (nI tcd), .int own_, .int opt], cin g os 51 (mR stp laws z cnt fogs arms kinds faiths places moved)]) rfl (fun H locs hw => ?_)
  refine lv_if_eq (tgt := 29) hx hb dX11_goer_6 (by decide) (fun c_1 => ?_) (fun c_1 => ?_)
  · refine lv_iconst (v := (-1)) hx hb dX11_goer_29 (by decide) ?_
    exact rE_i hf hr hlk hw ⟨congrArg some (by simp only [f_X11_goer, if_pos c_1]), by simp only [f_X11_goer_w1, f_X11_goer_w2, f_X11_goer_w3, f_X11_goer_w4, f_X11_goer_w5, if_pos c_1]⟩ (show ([oh, os] : List Nat) = [oh, os] from rfl) dX11_goer_30
  · refine lv_iload_n hx hb dX11_goer_9 rfl (lv_at hl 2 rfl) ?_
    refine lv_iconst (v := 0) hx hb dX11_goer_10 (by decide) ?_
    refine lv_bipush (v := 99) hx hb dX11_goer_11 (by decide) ?_
    refine mcS hf hk hst hw (c_X11_in1 l g faith 0 99) (va_cwS 3 hts gX11_goer_X11_in1 rfl rfl rfl hdS_X11_in1 ⟨Nat.le_of_ble_eq_true rfl, Nat.le_of_ble_eq_true rfl⟩) [] rfl rfl rfl hl.1 rfl (Nat.le_of_ble_eq_true rfl) dX11_goer_13 ⟨Nat.zero_le _, Nat.zero_le _⟩ (W' := [cob oh 11 [.ref os, .ref ok, .ref ol, .ref ord, .int isk, .ref odd, .ref otp, .int (nI tpd), .ref olt, .int oat, .int obg, .int otk, .int ovl, .ref orw, .int (nI rmn), .ref oso, .ref osz, .ref oit, .ref oho, .ref ohe, .ref otr, .int (nI tcd), .int own_, .int opt], cin g os 51 (mR stp laws z cnt fogs arms kinds faiths places moved)]) rfl (fun H locs hw => ?_)
    refine lv_if_eq (tgt := 29) hx hb dX11_goer_16 (by decide) (fun c_2 => ?_) (fun c_2 => ?_)
    · refine lv_iconst (v := (-1)) hx hb dX11_goer_29 (by decide) ?_
      exact rE_i hf hr hlk hw ⟨congrArg some (by simp only [f_X11_goer, if_neg c_1, if_pos c_2]), by simp only [f_X11_goer_w1, f_X11_goer_w2, f_X11_goer_w3, f_X11_goer_w4, f_X11_goer_w5, if_neg c_1, if_pos c_2]⟩ (show ([oh, os] : List Nat) = [oh, os] from rfl) dX11_goer_30
    · refine lv_iload_n hx hb dX11_goer_19 rfl (lv_at hl 3 rfl) ?_
      refine lv_iconst (v := 0) hx hb dX11_goer_20 (by decide) ?_
      refine lv_bipush (v := 11) hx hb dX11_goer_21 (by decide) ?_
      refine mcS hf hk hst hw (c_X11_in1 l g place 0 11) (va_cwS 3 hts gX11_goer_X11_in1 rfl rfl rfl hdS_X11_in1 ⟨Nat.le_of_ble_eq_true rfl, Nat.le_of_ble_eq_true rfl⟩) [] rfl rfl rfl hl.1 rfl (Nat.le_of_ble_eq_true rfl) dX11_goer_23 ⟨Nat.zero_le _, Nat.zero_le _⟩ (W' := [cob oh 11 [.ref os, .ref ok, .ref ol, .ref ord, .int isk, .ref odd, .ref otp, .int (nI tpd), .ref olt, .int oat, .int obg, .int otk, .int ovl, .ref orw, .int (nI rmn), .ref oso, .ref osz, .ref oit, .ref oho, .ref ohe, .ref otr, .int (nI tcd), .int own_, .int opt], cin g os 51 (mR stp laws z cnt fogs arms kinds faiths places moved)]) rfl (fun H locs hw => ?_)
      refine lv_if_ne (tgt := 31) hx hb dX11_goer_26 (by decide) (fun c_3 => ?_) (fun c_3 => ?_)
      · refine lv_aload_n hx hb dX11_goer_31 rfl (lv_at hl 0 rfl) ?_
        refine rg hf hk hw hinX11 0 rfl rfl 0 (by decide) w_0 rfl dX11_goer_32 ?_
        refine lv_bipush (v := 6) hx hb dX11_goer_35 (by decide) ?_
        refine rij hf hk hw 1 rfl (j := 6) (vp_in_nI (n := 6) (by omega) (by omega)) (rfl) dX11_goer_37 ?_
        refine lv_tope (y := nI cnt) (rfl) ?_
        refine lv_bipush (v := 8) hx hb dX11_goer_38 (by decide) ?_
        refine lv_icmp_ne (tgt := 46) hx hb dX11_goer_40 (by decide) (fun c_4 => ?_) (fun c_4 => ?_)
        · have hc : cnt < 8 := by have h : ¬ cnt = 8 := fun h => c_4 (by rw [h]; rfl); omega
          refine lv_aload_n hx hb dX11_goer_46 rfl (lv_at hl 0 rfl) ?_
          refine rg hf hk hw hinX11 0 rfl rfl 0 (by decide) w_0 rfl dX11_goer_47 ?_
          refine lv_bipush (v := 6) hx hb dX11_goer_50 (by decide) ?_
          refine rij hf hk hw 1 rfl (j := 6) (vp_in_nI (n := 6) (by omega) (by omega)) (rfl) dX11_goer_52 ?_
          refine lv_tope (y := nI cnt) (rfl) ?_
          refine lv_istore (lv' := [(4, .int (nI cnt)), (0, .ref oh), (1, .int kind), (2, .int faith), (3, .int place)]) hx hb dX11_goer_53 hl (by decide) rfl (fun ls hl => ?_)
          refine lv_aload_n hx hb dX11_goer_55 rfl (lv_at hl 1 rfl) ?_
          refine lv_iload hx hb dX11_goer_56 (lv_at hl 0 rfl) ?_
          refine lv_iconst (v := 0) hx hb dX11_goer_58 (by decide) ?_
          refine lv_iload_n hx hb dX11_goer_59 rfl (lv_at hl 2 rfl) ?_
          refine mcV hf hk hst hw (c_X11_puts0 l g oh os ok ol ord odd otp olt orw oso osz oit oho ohe otr stp laws z cnt fogs arms kinds faiths places moved isk tpd oat obg otk ovl rmn tcd own_ opt cnt kind (by omega)) (cwV 3 hts gX11_goer_X11_puts rfl rfl rfl hdV_X11_puts ⟨Nat.le_of_ble_eq_true rfl, Nat.le_of_ble_eq_true rfl⟩) [0, 1] rfl rfl 0 rfl rfl rfl hl.1 rfl (Nat.le_of_ble_eq_true rfl) dX11_goer_60 ⟨Nat.zero_le _, Nat.zero_le _⟩ (W' := [cob oh 11 [.ref os, .ref ok, .ref ol, .ref ord, .int isk, .ref odd, .ref otp, .int (nI tpd), .ref olt, .int oat, .int obg, .int otk, .int ovl, .ref orw, .int (nI rmn), .ref oso, .ref osz, .ref oit, .ref oho, .ref ohe, .ref otr, .int (nI tcd), .int own_, .int opt], cin g os 51 (mR stp laws z cnt fogs arms (upd kinds cnt kind) faiths places moved)]) rfl (fun H locs hw => ?_)
          refine lv_aload_n hx hb dX11_goer_63 rfl (lv_at hl 1 rfl) ?_
          refine lv_iload hx hb dX11_goer_64 (lv_at hl 0 rfl) ?_
          refine lv_iconst (v := 1) hx hb dX11_goer_66 (by decide) ?_
          refine lv_iload_n hx hb dX11_goer_67 rfl (lv_at hl 3 rfl) ?_
          refine mcV hf hk hst hw (c_X11_puts1 l g oh os ok ol ord odd otp olt orw oso osz oit oho ohe otr stp laws z cnt fogs arms (upd kinds cnt kind) faiths places moved isk tpd oat obg otk ovl rmn tcd own_ opt cnt faith (by omega)) (cwV 3 hts gX11_goer_X11_puts rfl rfl rfl hdV_X11_puts ⟨Nat.le_of_ble_eq_true rfl, Nat.le_of_ble_eq_true rfl⟩) [0, 1] rfl rfl 0 rfl rfl rfl hl.1 rfl (Nat.le_of_ble_eq_true rfl) dX11_goer_68 ⟨Nat.zero_le _, Nat.zero_le _⟩ (W' := [cob oh 11 [.ref os, .ref ok, .ref ol, .ref ord, .int isk, .ref odd, .ref otp, .int (nI tpd), .ref olt, .int oat, .int obg, .int otk, .int ovl, .ref orw, .int (nI rmn), .ref oso, .ref osz, .ref oit, .ref oho, .ref ohe, .ref otr, .int (nI tcd), .int own_, .int opt], cin g os 51 (mR stp laws z cnt fogs arms (upd kinds cnt kind) (upd faiths cnt faith) places moved)]) rfl (fun H locs hw => ?_)
          refine lv_aload_n hx hb dX11_goer_71 rfl (lv_at hl 1 rfl) ?_
          refine lv_iload hx hb dX11_goer_72 (lv_at hl 0 rfl) ?_
          refine lv_iconst (v := 2) hx hb dX11_goer_74 (by decide) ?_
          refine lv_iload_n hx hb dX11_goer_75 rfl (lv_at hl 4 rfl) ?_
          refine mcV hf hk hst hw (c_X11_puts2 l g oh os ok ol ord odd otp olt orw oso osz oit oho ohe otr stp laws z cnt fogs arms (upd kinds cnt kind) (upd faiths cnt faith) places moved isk tpd oat obg otk ovl rmn tcd own_ opt cnt place (by omega)) (cwV 3 hts gX11_goer_X11_puts rfl rfl rfl hdV_X11_puts ⟨Nat.le_of_ble_eq_true rfl, Nat.le_of_ble_eq_true rfl⟩) [0, 1] rfl rfl 0 rfl rfl rfl hl.1 rfl (Nat.le_of_ble_eq_true rfl) dX11_goer_76 ⟨Nat.zero_le _, Nat.zero_le _⟩ (W' := [cob oh 11 [.ref os, .ref ok, .ref ol, .ref ord, .int isk, .ref odd, .ref otp, .int (nI tpd), .ref olt, .int oat, .int obg, .int otk, .int ovl, .ref orw, .int (nI rmn), .ref oso, .ref osz, .ref oit, .ref oho, .ref ohe, .ref otr, .int (nI tcd), .int own_, .int opt], cin g os 51 (mR stp laws z cnt fogs arms (upd kinds cnt kind) (upd faiths cnt faith) (upd places cnt place) moved)]) rfl (fun H locs hw => ?_)
          refine lv_aload_n hx hb dX11_goer_79 rfl (lv_at hl 1 rfl) ?_
          refine lv_iload hx hb dX11_goer_80 (lv_at hl 0 rfl) ?_
          refine lv_iconst (v := 3) hx hb dX11_goer_82 (by decide) ?_
          refine lv_iconst (v := 0) hx hb dX11_goer_83 (by decide) ?_
          refine mcV hf hk hst hw (c_X11_puts3 l g oh os ok ol ord odd otp olt orw oso osz oit oho ohe otr stp laws z cnt fogs arms (upd kinds cnt kind) (upd faiths cnt faith) (upd places cnt place) moved isk tpd oat obg otk ovl rmn tcd own_ opt cnt 0 (by omega)) (cwV 3 hts gX11_goer_X11_puts rfl rfl rfl hdV_X11_puts ⟨Nat.le_of_ble_eq_true rfl, Nat.le_of_ble_eq_true rfl⟩) [0, 1] rfl rfl 0 rfl rfl rfl hl.1 rfl (Nat.le_of_ble_eq_true rfl) dX11_goer_84 ⟨Nat.zero_le _, Nat.zero_le _⟩ (W' := [cob oh 11 [.ref os, .ref ok, .ref ol, .ref ord, .int isk, .ref odd, .ref otp, .int (nI tpd), .ref olt, .int oat, .int obg, .int otk, .int ovl, .ref orw, .int (nI rmn), .ref oso, .ref osz, .ref oit, .ref oho, .ref ohe, .ref otr, .int (nI tcd), .int own_, .int opt], cin g os 51 (mR stp laws z cnt fogs arms (upd kinds cnt kind) (upd faiths cnt faith) (upd places cnt place) (upd moved cnt 0))]) rfl (fun H locs hw => ?_)
          refine lv_aload_n hx hb dX11_goer_87 rfl (lv_at hl 1 rfl) ?_
          refine rg hf hk hw hinX11 0 rfl rfl 0 (by decide) w_0 rfl dX11_goer_88 ?_
          refine lv_bipush (v := 6) hx hb dX11_goer_91 (by decide) ?_
          refine lv_dup2_11 hx hb dX11_goer_93 rfl rfl ?_
          refine rij hf hk hw 1 rfl (j := 6) (vp_in_nI (n := 6) (by omega) (by omega)) (rfl) dX11_goer_94 ?_
          refine lv_tope (y := nI cnt) (rfl) ?_
          refine lv_iconst (v := 1) hx hb dX11_goer_95 (by decide) ?_
          refine lv_iadd hx hb dX11_goer_96 ?_
          refine lv_tope (y := nI (cnt + 1)) (nI_1 _) ?_
          refine rse hf hk hw 1 rfl (j := 6) (vp_in_nI (n := 6) (by omega) (by omega)) (rfl) (mU_cnt) dX11_goer_97 (W' := [cob oh 11 [.ref os, .ref ok, .ref ol, .ref ord, .int isk, .ref odd, .ref otp, .int (nI tpd), .ref olt, .int oat, .int obg, .int otk, .int ovl, .ref orw, .int (nI rmn), .ref oso, .ref osz, .ref oit, .ref oho, .ref ohe, .ref otr, .int (nI tcd), .int own_, .int opt], cin g os 51 (mR stp laws z (cnt + 1) fogs arms (upd kinds cnt kind) (upd faiths cnt faith) (upd places cnt place) (upd moved cnt 0))]) rfl (fun H locs hw => ?_)
          refine lv_iload hx hb dX11_goer_98 (lv_at hl 0 rfl) ?_
          exact rE_i hf hr hlk hw ⟨congrArg some (by simp only [f_X11_goer, if_neg c_1, if_neg c_2, if_neg c_3, if_neg c_4]), by simp only [f_X11_goer_w1, f_X11_goer_w2, f_X11_goer_w3, f_X11_goer_w4, f_X11_goer_w5, if_neg c_1, if_neg c_2, if_neg c_3, if_neg c_4]⟩ (show ([oh, os] : List Nat) = [oh, os] from rfl) dX11_goer_100
        · refine lv_bipush (v := (-2)) hx hb dX11_goer_43 (by decide) ?_
          exact rE_i hf hr hlk hw ⟨congrArg some (by simp only [f_X11_goer, if_neg c_1, if_neg c_2, if_neg c_3, if_pos c_4]), by simp only [f_X11_goer_w1, f_X11_goer_w2, f_X11_goer_w3, f_X11_goer_w4, f_X11_goer_w5, if_neg c_1, if_neg c_2, if_neg c_3, if_pos c_4]⟩ (show ([oh, os] : List Nat) = [oh, os] from rfl) dX11_goer_45
      · refine lv_iconst (v := (-1)) hx hb dX11_goer_29 (by decide) ?_
        exact rE_i hf hr hlk hw ⟨congrArg some (by simp only [f_X11_goer, if_neg c_1, if_neg c_2, if_pos c_3]), by simp only [f_X11_goer_w1, f_X11_goer_w2, f_X11_goer_w3, f_X11_goer_w4, f_X11_goer_w5, if_neg c_1, if_neg c_2, if_pos c_3]⟩ (show ([oh, os] : List Nat) = [oh, os] from rfl) dX11_goer_30
theorem hdV_X11_isGoer : yX11_isGoer.cls = RX11 ∧ yX11_isGoer.cls ≠ "java/lang/invoke/MethodHandle" ∧ yX11_isGoer.cls ≠ "java/lang/invoke/VarHandle" ∧ (parseMethodDescriptor yX11_isGoer.desc).map (fun d => d.parameters.length) = some 1 := by decide +kernel
def f_X11_of (stp : Nat) (laws : Nat → Int32) (z : Int32) (cnt : Nat) (fogs : Nat → Int32) (arms : Nat → Int32) (kinds : Nat → Int32) (faiths : Nat → Int32) (places : Nat → Int32) (moved : Nat → Int32) (goer : Int32) (what : Int32) : Int32 := if (f_X8_has cnt goer) = 0 then (-1) else (if (nO what 0 4) = 0 then (-1) else (if 4 ≤ (nI (ix what)) then (if (thrF (places (ix goer))) = 0 then (if (seesF (kinds (ix goer)) (fogs (stp % 6)) (arms (stp % 6)) (laws 0) (places (ix goer))) = 0 then 0 else 1) else 0) else ((mR stp laws z cnt fogs arms kinds faiths places moved) (19 + 4 * (ix goer) + (ix what)))))
abbrev rmX11_of : Room := { frames := 3, cells := 0, slots := 0, locals := 65 }
set_option maxHeartbeats 4000000 in
set_option maxRecDepth 100000 in
theorem c_X11_of (l : Launch) (g : GG) (oh : Nat) (os : Nat) (ok : Nat) (ol : Nat) (ord : Nat) (odd : Nat) (otp : Nat) (olt : Nat) (orw : Nat) (oso : Nat) (osz : Nat) (oit : Nat) (oho : Nat) (ohe : Nat) (otr : Nat) (stp : Nat) (laws : Nat → Int32) (z : Int32) (cnt : Nat) (fogs : Nat → Int32) (arms : Nat → Int32) (kinds : Nat → Int32) (faiths : Nat → Int32) (places : Nat → Int32) (moved : Nat → Int32) (isk : Int32) (tpd : Nat) (oat : Int32) (obg : Int32) (otk : Int32) (ovl : Int32) (rmn : Nat) (tcd : Nat) (own_ : Int32) (opt : Int32) (goer : Int32) (what : Int32) (hc8 : cnt ≤ 8) (hsp : stp < 2 ^ 30) (hpl : ∀ j, j < cnt → plOk (places j)) : mtR l g yX11_of wsX11_of rmX11_of [.ref oh, .int goer, .int what] [cob oh 11 [.ref os, .ref ok, .ref ol, .ref ord, .int isk, .ref odd, .ref otp, .int (nI tpd), .ref olt, .int oat, .int obg, .int otk, .int ovl, .ref orw, .int (nI rmn), .ref oso, .ref osz, .ref oit, .ref oho, .ref ohe, .ref otr, .int (nI tcd), .int own_, .int opt], cin g os 51 (mR stp laws z cnt fogs arms kinds faiths places moved)] (fun rv W => rv = (some (.int (f_X11_of stp laws z cnt fogs arms kinds faiths places moved goer what))) ∧ W = [cob oh 11 [.ref os, .ref ok, .ref ol, .ref ord, .int isk, .ref odd, .ref otp, .int (nI tpd), .ref olt, .int oat, .int obg, .int otk, .int ovl, .ref orw, .int (nI rmn), .ref oso, .ref osz, .ref oit, .ref oho, .ref ohe, .ref otr, .int (nI tcd), .int own_, .int opt], cin g os 51 (mR stp laws z cnt fogs arms kinds faiths places moved)]) := by
  refine mtR.of (cc := cX11_of) (nL := 3) (ret := (some .int)) (own := RX11) (by decide +kernel) rfl rfl (Nat.le_of_ble_eq_true rfl) (fun p e s m below meth c hf hr hlk _ hk hst hw ls hl => ?_)
  have hx := hf.1
  have hb := hf.2.1
  have hts := hf.2.2.2.2
  have hl : lv_has ls 3 [(0, .ref oh), (1, .int goer), (2, .int what)] := hl
  refine lv_aload_n hx hb dX11_of_0 rfl (lv_at hl 0 rfl) ?_
  refine lv_iload_n hx hb dX11_of_1 rfl (lv_at hl 1 rfl) ?_
  refine mcV hf hk hst hw (c_X11_isGoer l g oh os ok ol ord odd otp olt orw oso osz oit oho ohe otr stp laws z cnt fogs arms kinds faiths places moved isk tpd oat obg otk ovl rmn tcd own_ opt goer (by omega)) (cwV 1 hts gX11_of_X11_isGoer rfl rfl rfl hdV_X11_isGoer ⟨Nat.le_of_ble_eq_true rfl, Nat.le_of_ble_eq_true rfl⟩) [0, 1] rfl rfl 0 rfl rfl rfl hl.1 rfl (Nat.le_of_ble_eq_true rfl) dX11_of_2 ⟨Nat.zero_le _, Nat.zero_le _⟩ (W' := [cob oh 11 [.ref os, .ref ok, .ref ol, .ref ord, .int isk, .ref odd, .ref otp, .int (nI tpd), .ref olt, .int oat, .int obg, .int otk, .int ovl, .ref orw, .int (nI rmn), .ref oso, .ref osz, .ref oit, .ref oho, .ref ohe, .ref otr, .int (nI tcd), .int own_, .int opt], cin g os 51 (mR stp laws z cnt fogs arms kinds faiths places moved)]) rfl (fun H locs hw => ?_)
  refine lv_if_eq (tgt := 17) hx hb dX11_of_5 (by decide) (fun c_1 => ?_) (fun c_1 => ?_)
  · refine lv_iconst (v := (-1)) hx hb dX11_of_17 (by decide) ?_
    exact rE_i hf hr hlk hw ⟨congrArg some (by simp only [f_X11_of, if_pos c_1]), rfl⟩ (show ([oh, os] : List Nat) = [oh, os] from rfl) dX11_of_18
  · have hg := has_n hc8 c_1
    have hg2 := hg.2
    refine lv_iload_n hx hb dX11_of_8 rfl (lv_at hl 2 rfl) ?_
    refine lv_iconst (v := 0) hx hb dX11_of_9 (by decide) ?_
    refine lv_iconst (v := 4) hx hb dX11_of_10 (by decide) ?_
    refine mcS hf hk hst hw (c_X11_in1 l g what 0 4) (va_cwS 3 hts gX11_of_X11_in1 rfl rfl rfl hdS_X11_in1 ⟨Nat.le_of_ble_eq_true rfl, Nat.le_of_ble_eq_true rfl⟩) [] rfl rfl rfl hl.1 rfl (Nat.le_of_ble_eq_true rfl) dX11_of_11 ⟨Nat.zero_le _, Nat.zero_le _⟩ (W' := [cob oh 11 [.ref os, .ref ok, .ref ol, .ref ord, .int isk, .ref odd, .ref otp, .int (nI tpd), .ref olt, .int oat, .int obg, .int otk, .int ovl, .ref orw, .int (nI rmn), .ref oso, .ref osz, .ref oit, .ref oho, .ref ohe, .ref otr, .int (nI tcd), .int own_, .int opt], cin g os 51 (mR stp laws z cnt fogs arms kinds faiths places moved)]) rfl (fun H locs hw => ?_)
    refine lv_if_ne (tgt := 19) hx hb dX11_of_14 (by decide) (fun c_2 => ?_) (fun c_2 => ?_)
    · have hw_ := out_n (N := 4) (by decide) (nO_1 c_2)
      have hw_2 := hw_.2
      refine lv_iload_n hx hb dX11_of_19 rfl (lv_at hl 2 rfl) ?_
      refine lv_tope (y := nI (ix what)) hw_.1 ?_
      refine lv_iconst (v := 4) hx hb dX11_of_20 (by decide) ?_
      refine lv_icmp_ge (tgt := 33) hx hb dX11_of_21 (by decide) (fun c_3 => ?_) (fun c_3 => ?_)
      · refine lv_aload_n hx hb dX11_of_33 rfl (lv_at hl 0 rfl) ?_
        refine lv_iload_n hx hb dX11_of_34 rfl (lv_at hl 1 rfl) ?_
        refine lv_tope (y := nI (ix goer)) hg.1 ?_
        refine mcV hf hk hst hw (c_X11_isThrough l g oh os ok ol ord odd otp olt orw oso osz oit oho ohe otr stp laws z cnt fogs arms kinds faiths places moved isk tpd oat obg otk ovl rmn tcd own_ opt (ix goer) (by omega) (hpl _ hg2)) (cwV 1 hts gX11_of_X11_isThrough rfl rfl rfl hdV_X11_isThrough ⟨Nat.le_of_ble_eq_true rfl, Nat.le_of_ble_eq_true rfl⟩) [0, 1] rfl rfl 0 rfl rfl rfl hl.1 rfl (Nat.le_of_ble_eq_true rfl) dX11_of_35 ⟨Nat.zero_le _, Nat.zero_le _⟩ (W' := [cob oh 11 [.ref os, .ref ok, .ref ol, .ref ord, .int isk, .ref odd, .ref otp, .int (nI tpd), .ref olt, .int oat, .int obg, .int otk, .int ovl, .ref orw, .int (nI rmn), .ref oso, .ref osz, .ref oit, .ref oho, .ref ohe, .ref otr, .int (nI tcd), .int own_, .int opt], cin g os 51 (mR stp laws z cnt fogs arms kinds faiths places moved)]) rfl (fun H locs hw => ?_)
        refine lv_if_ne (tgt := 53) hx hb dX11_of_38 (by decide) (fun c_4 => ?_) (fun c_4 => ?_)
        · refine lv_iconst (v := 0) hx hb dX11_of_53 (by decide) ?_
          exact rE_i hf hr hlk hw ⟨congrArg some (by simp only [f_X11_of, if_neg c_1, if_neg c_2, if_pos c_3, if_neg c_4]), rfl⟩ (show ([oh, os] : List Nat) = [oh, os] from rfl) dX11_of_54
        · refine lv_aload_n hx hb dX11_of_41 rfl (lv_at hl 0 rfl) ?_
          refine lv_iload_n hx hb dX11_of_42 rfl (lv_at hl 1 rfl) ?_
          refine lv_tope (y := nI (ix goer)) hg.1 ?_
          refine mcV hf hk hst hw (c_X11_doesSee l g oh os ok ol ord odd otp olt orw oso osz oit oho ohe otr stp laws z cnt fogs arms kinds faiths places moved isk tpd oat obg otk ovl rmn tcd own_ opt (ix goer) (by omega) (by omega)) (cwV 1 hts gX11_of_X11_doesSee rfl rfl rfl hdV_X11_doesSee ⟨Nat.le_of_ble_eq_true rfl, Nat.le_of_ble_eq_true rfl⟩) [0, 1] rfl rfl 0 rfl rfl rfl hl.1 rfl (Nat.le_of_ble_eq_true rfl) dX11_of_43 ⟨Nat.zero_le _, Nat.zero_le _⟩ (W' := [cob oh 11 [.ref os, .ref ok, .ref ol, .ref ord, .int isk, .ref odd, .ref otp, .int (nI tpd), .ref olt, .int oat, .int obg, .int otk, .int ovl, .ref orw, .int (nI rmn), .ref oso, .ref osz, .ref oit, .ref oho, .ref ohe, .ref otr, .int (nI tcd), .int own_, .int opt], cin g os 51 (mR stp laws z cnt fogs arms kinds faiths places moved)]) rfl (fun H locs hw => ?_)
          refine lv_if_eq (tgt := 53) hx hb dX11_of_46 (by decide) (fun c_5 => ?_) (fun c_5 => ?_)
          · refine lv_iconst (v := 0) hx hb dX11_of_53 (by decide) ?_
            exact rE_i hf hr hlk hw ⟨congrArg some (by simp only [f_X11_of, if_neg c_1, if_neg c_2, if_pos c_3, if_pos c_4, if_pos c_5]), rfl⟩ (show ([oh, os] : List Nat) = [oh, os] from rfl) dX11_of_54
          · refine lv_iconst (v := 1) hx hb dX11_of_49 (by decide) ?_
            refine lv_goto (tgt := 54) hx hb dX11_of_50 (by decide) ?_
            exact rE_i hf hr hlk hw ⟨congrArg some (by simp only [f_X11_of, if_neg c_1, if_neg c_2, if_pos c_3, if_pos c_4, if_neg c_5]), rfl⟩ (show ([oh, os] : List Nat) = [oh, os] from rfl) dX11_of_54
      · have hw4 : ix what < 4 := Nat.not_le.mp (fun h => c_3 ((nI_leI (a := 4) (by omega) (by omega)).mpr h))
        refine lv_aload_n hx hb dX11_of_24 rfl (lv_at hl 0 rfl) ?_
        refine lv_iload_n hx hb dX11_of_25 rfl (lv_at hl 1 rfl) ?_
        refine lv_tope (y := nI (ix goer)) hg.1 ?_
        refine lv_iload_n hx hb dX11_of_26 rfl (lv_at hl 2 rfl) ?_
        refine lv_tope (y := nI (ix what)) hw_.1 ?_
        refine mcV hf hk hst hw (c_X11_getN l g oh os ok ol ord odd otp olt orw oso osz oit oho ohe otr stp laws z cnt fogs arms kinds faiths places moved isk tpd oat obg otk ovl rmn tcd own_ opt (ix goer) (ix what) (by omega) (by omega)) (cwV 2 hts gX11_of_X11_get rfl rfl rfl hdV_X11_get ⟨Nat.le_of_ble_eq_true rfl, Nat.le_of_ble_eq_true rfl⟩) [0, 1] rfl rfl 0 rfl rfl rfl hl.1 rfl (Nat.le_of_ble_eq_true rfl) dX11_of_27 ⟨Nat.zero_le _, Nat.zero_le _⟩ (W' := [cob oh 11 [.ref os, .ref ok, .ref ol, .ref ord, .int isk, .ref odd, .ref otp, .int (nI tpd), .ref olt, .int oat, .int obg, .int otk, .int ovl, .ref orw, .int (nI rmn), .ref oso, .ref osz, .ref oit, .ref oho, .ref ohe, .ref otr, .int (nI tcd), .int own_, .int opt], cin g os 51 (mR stp laws z cnt fogs arms kinds faiths places moved)]) rfl (fun H locs hw => ?_)
        refine lv_goto (tgt := 54) hx hb dX11_of_30 (by decide) ?_
        exact rE_i hf hr hlk hw ⟨congrArg some (by simp only [f_X11_of, if_neg c_1, if_neg c_2, if_neg c_3]), rfl⟩ (show ([oh, os] : List Nat) = [oh, os] from rfl) dX11_of_54
    · refine lv_iconst (v := (-1)) hx hb dX11_of_17 (by decide) ?_
      exact rE_i hf hr hlk hw ⟨congrArg some (by simp only [f_X11_of, if_neg c_1, if_pos c_2]), rfl⟩ (show ([oh, os] : List Nat) = [oh, os] from rfl) dX11_of_18
def f_X11_does (stp : Nat) (laws : Nat → Int32) (cnt : Nat) (fogs : Nat → Int32) (arms : Nat → Int32) (kinds : Nat → Int32) (places : Nat → Int32) (goer : Int32) (what : Int32) : Int32 := if (f_X8_has cnt goer) = 0 then (-1) else (if (nO what 0 3) = 0 then (-1) else (if (thrF (places (ix goer))) = 0 then (if what = 0 then (1000 + (sightF (kinds (ix goer)) (fogs (stp % 6)) (arms (stp % 6)) (laws 0))) else (if what = 1 then (1000 + (keenF (kinds (ix goer)) (arms (stp % 6)) (laws 0))) else (if what = 2 then (1000 + (fearsF (kinds (ix goer)) (fogs (stp % 6)))) else (1000 + (paceF (kinds (ix goer)) (nI stp) (seesF (kinds (ix goer)) (fogs (stp % 6)) (arms (stp % 6)) (laws 0) (places (ix goer)))))))) else (-3)))
abbrev rmX11_does : Room := { frames := 4, cells := 0, slots := 0, locals := 86 }
set_option maxHeartbeats 4000000 in
set_option maxRecDepth 100000 in
theorem c_X11_does (l : Launch) (g : GG) (oh : Nat) (os : Nat) (ok : Nat) (ol : Nat) (ord : Nat) (odd : Nat) (otp : Nat) (olt : Nat) (orw : Nat) (oso : Nat) (osz : Nat) (oit : Nat) (oho : Nat) (ohe : Nat) (otr : Nat) (stp : Nat) (laws : Nat → Int32) (z : Int32) (cnt : Nat) (fogs : Nat → Int32) (arms : Nat → Int32) (kinds : Nat → Int32) (faiths : Nat → Int32) (places : Nat → Int32) (moved : Nat → Int32) (isk : Int32) (tpd : Nat) (oat : Int32) (obg : Int32) (otk : Int32) (ovl : Int32) (rmn : Nat) (tcd : Nat) (own_ : Int32) (opt : Int32) (goer : Int32) (what : Int32) (hc8 : cnt ≤ 8) (hsp : stp < 2 ^ 30) (hpl : ∀ j, j < cnt → plOk (places j)) : mtR l g yX11_does wsX11_does rmX11_does [.ref oh, .int goer, .int what] [cob oh 11 [.ref os, .ref ok, .ref ol, .ref ord, .int isk, .ref odd, .ref otp, .int (nI tpd), .ref olt, .int oat, .int obg, .int otk, .int ovl, .ref orw, .int (nI rmn), .ref oso, .ref osz, .ref oit, .ref oho, .ref ohe, .ref otr, .int (nI tcd), .int own_, .int opt], cin g os 51 (mR stp laws z cnt fogs arms kinds faiths places moved)] (fun rv W => rv = (some (.int (f_X11_does stp laws cnt fogs arms kinds places goer what))) ∧ W = [cob oh 11 [.ref os, .ref ok, .ref ol, .ref ord, .int isk, .ref odd, .ref otp, .int (nI tpd), .ref olt, .int oat, .int obg, .int otk, .int ovl, .ref orw, .int (nI rmn), .ref oso, .ref osz, .ref oit, .ref oho, .ref ohe, .ref otr, .int (nI tcd), .int own_, .int opt], cin g os 51 (mR stp laws z cnt fogs arms kinds faiths places moved)]) := by
  refine mtR.of (cc := cX11_does) (nL := 3) (ret := (some .int)) (own := RX11) (by decide +kernel) rfl rfl (Nat.le_of_ble_eq_true rfl) (fun p e s m below meth c hf hr hlk _ hk hst hw ls hl => ?_)
  have hx := hf.1
  have hb := hf.2.1
  have hts := hf.2.2.2.2
  have hl : lv_has ls 3 [(0, .ref oh), (1, .int goer), (2, .int what)] := hl
  refine lv_aload_n hx hb dX11_does_0 rfl (lv_at hl 0 rfl) ?_
  refine lv_iload_n hx hb dX11_does_1 rfl (lv_at hl 1 rfl) ?_
  refine mcV hf hk hst hw (c_X11_isGoer l g oh os ok ol ord odd otp olt orw oso osz oit oho ohe otr stp laws z cnt fogs arms kinds faiths places moved isk tpd oat obg otk ovl rmn tcd own_ opt goer (by omega)) (cwV 1 hts gX11_does_X11_isGoer rfl rfl rfl hdV_X11_isGoer ⟨Nat.le_of_ble_eq_true rfl, Nat.le_of_ble_eq_true rfl⟩) [0, 1] rfl rfl 0 rfl rfl rfl hl.1 rfl (Nat.le_of_ble_eq_true rfl) dX11_does_2 ⟨Nat.zero_le _, Nat.zero_le _⟩ (W' := [cob oh 11 [.ref os, .ref ok, .ref ol, .ref ord, .int isk, .ref odd, .ref otp, .int (nI tpd), .ref olt, .int oat, .int obg, .int otk, .int ovl, .ref orw, .int (nI rmn), .ref oso, .ref osz, .ref oit, .ref oho, .ref ohe, .ref otr, .int (nI tcd), .int own_, .int opt], cin g os 51 (mR stp laws z cnt fogs arms kinds faiths places moved)]) rfl (fun H locs hw => ?_)
  refine lv_if_eq (tgt := 17) hx hb dX11_does_5 (by decide) (fun c_1 => ?_) (fun c_1 => ?_)
  · refine lv_iconst (v := (-1)) hx hb dX11_does_17 (by decide) ?_
    exact rE_i hf hr hlk hw ⟨congrArg some (by simp only [f_X11_does, if_pos c_1]), rfl⟩ (show ([oh, os] : List Nat) = [oh, os] from rfl) dX11_does_18
  · have hg := has_n hc8 c_1
    have hg2 := hg.2
    refine lv_iload_n hx hb dX11_does_8 rfl (lv_at hl 2 rfl) ?_
    refine lv_iconst (v := 0) hx hb dX11_does_9 (by decide) ?_
    refine lv_iconst (v := 3) hx hb dX11_does_10 (by decide) ?_
    refine mcS hf hk hst hw (c_X11_in1 l g what 0 3) (va_cwS 3 hts gX11_does_X11_in1 rfl rfl rfl hdS_X11_in1 ⟨Nat.le_of_ble_eq_true rfl, Nat.le_of_ble_eq_true rfl⟩) [] rfl rfl rfl hl.1 rfl (Nat.le_of_ble_eq_true rfl) dX11_does_11 ⟨Nat.zero_le _, Nat.zero_le _⟩ (W' := [cob oh 11 [.ref os, .ref ok, .ref ol, .ref ord, .int isk, .ref odd, .ref otp, .int (nI tpd), .ref olt, .int oat, .int obg, .int otk, .int ovl, .ref orw, .int (nI rmn), .ref oso, .ref osz, .ref oit, .ref oho, .ref ohe, .ref otr, .int (nI tcd), .int own_, .int opt], cin g os 51 (mR stp laws z cnt fogs arms kinds faiths places moved)]) rfl (fun H locs hw => ?_)
    refine lv_if_ne (tgt := 19) hx hb dX11_does_14 (by decide) (fun c_2 => ?_) (fun c_2 => ?_)
    · refine lv_aload_n hx hb dX11_does_19 rfl (lv_at hl 0 rfl) ?_
      refine lv_iload_n hx hb dX11_does_20 rfl (lv_at hl 1 rfl) ?_
      refine lv_tope (y := nI (ix goer)) hg.1 ?_
      refine mcV hf hk hst hw (c_X11_isThrough l g oh os ok ol ord odd otp olt orw oso osz oit oho ohe otr stp laws z cnt fogs arms kinds faiths places moved isk tpd oat obg otk ovl rmn tcd own_ opt (ix goer) (by omega) (hpl _ hg2)) (cwV 1 hts gX11_does_X11_isThrough rfl rfl rfl hdV_X11_isThrough ⟨Nat.le_of_ble_eq_true rfl, Nat.le_of_ble_eq_true rfl⟩) [0, 1] rfl rfl 0 rfl rfl rfl hl.1 rfl (Nat.le_of_ble_eq_true rfl) dX11_does_21 ⟨Nat.zero_le _, Nat.zero_le _⟩ (W' := [cob oh 11 [.ref os, .ref ok, .ref ol, .ref ord, .int isk, .ref odd, .ref otp, .int (nI tpd), .ref olt, .int oat, .int obg, .int otk, .int ovl, .ref orw, .int (nI rmn), .ref oso, .ref osz, .ref oit, .ref oho, .ref ohe, .ref otr, .int (nI tcd), .int own_, .int opt], cin g os 51 (mR stp laws z cnt fogs arms kinds faiths places moved)]) rfl (fun H locs hw => ?_)
      refine lv_if_eq (tgt := 30) hx hb dX11_does_24 (by decide) (fun c_3 => ?_) (fun c_3 => ?_)
      · refine lv_sipush (v := 1000) hx hb dX11_does_30 (by decide) ?_
        refine lv_iload_n hx hb dX11_does_33 rfl (lv_at hl 2 rfl) ?_
        refine lv_if_ne (tgt := 45) hx hb dX11_does_34 (by decide) (fun c_4 => ?_) (fun c_4 => ?_)
        · refine lv_iload_n hx hb dX11_does_45 rfl (lv_at hl 2 rfl) ?_
          refine lv_iconst (v := 1) hx hb dX11_does_46 (by decide) ?_
          refine lv_icmp_ne (tgt := 58) hx hb dX11_does_47 (by decide) (fun c_5 => ?_) (fun c_5 => ?_)
          · refine lv_iload_n hx hb dX11_does_58 rfl (lv_at hl 2 rfl) ?_
            refine lv_iconst (v := 2) hx hb dX11_does_59 (by decide) ?_
            refine lv_icmp_ne (tgt := 71) hx hb dX11_does_60 (by decide) (fun c_6 => ?_) (fun c_6 => ?_)
            · refine lv_aload_n hx hb dX11_does_71 rfl (lv_at hl 0 rfl) ?_
              refine lv_iload_n hx hb dX11_does_72 rfl (lv_at hl 1 rfl) ?_
              refine lv_tope (y := nI (ix goer)) hg.1 ?_
              refine mcV hf hk hst hw (c_X11_paceOf l g oh os ok ol ord odd otp olt orw oso osz oit oho ohe otr stp laws z cnt fogs arms kinds faiths places moved isk tpd oat obg otk ovl rmn tcd own_ opt (ix goer) (by omega) (by omega)) (cwV 1 hts gX11_does_X11_paceOf rfl rfl rfl hdV_X11_paceOf ⟨Nat.le_of_ble_eq_true rfl, Nat.le_of_ble_eq_true rfl⟩) [0, 1] rfl rfl 0 rfl rfl rfl hl.1 rfl (Nat.le_of_ble_eq_true rfl) dX11_does_73 ⟨Nat.zero_le _, Nat.zero_le _⟩ (W' := [cob oh 11 [.ref os, .ref ok, .ref ol, .ref ord, .int isk, .ref odd, .ref otp, .int (nI tpd), .ref olt, .int oat, .int obg, .int otk, .int ovl, .ref orw, .int (nI rmn), .ref oso, .ref osz, .ref oit, .ref oho, .ref ohe, .ref otr, .int (nI tcd), .int own_, .int opt], cin g os 51 (mR stp laws z cnt fogs arms kinds faiths places moved)]) rfl (fun H locs hw => ?_)
              refine lv_iadd hx hb dX11_does_76 ?_
              exact rE_i hf hr hlk hw ⟨congrArg some (by simp only [f_X11_does, if_neg c_1, if_neg c_2, if_pos c_3, if_neg c_4, if_neg c_5, if_neg c_6]), rfl⟩ (show ([oh, os] : List Nat) = [oh, os] from rfl) dX11_does_77
            · refine lv_aload_n hx hb dX11_does_63 rfl (lv_at hl 0 rfl) ?_
              refine lv_iload_n hx hb dX11_does_64 rfl (lv_at hl 1 rfl) ?_
              refine lv_tope (y := nI (ix goer)) hg.1 ?_
              refine mcV hf hk hst hw (c_X11_fearsOf l g oh os ok ol ord odd otp olt orw oso osz oit oho ohe otr stp laws z cnt fogs arms kinds faiths places moved isk tpd oat obg otk ovl rmn tcd own_ opt (ix goer) (by omega) (by omega)) (cwV 1 hts gX11_does_X11_fearsOf rfl rfl rfl hdV_X11_fearsOf ⟨Nat.le_of_ble_eq_true rfl, Nat.le_of_ble_eq_true rfl⟩) [0, 1] rfl rfl 0 rfl rfl rfl hl.1 rfl (Nat.le_of_ble_eq_true rfl) dX11_does_65 ⟨Nat.zero_le _, Nat.zero_le _⟩ (W' := [cob oh 11 [.ref os, .ref ok, .ref ol, .ref ord, .int isk, .ref odd, .ref otp, .int (nI tpd), .ref olt, .int oat, .int obg, .int otk, .int ovl, .ref orw, .int (nI rmn), .ref oso, .ref osz, .ref oit, .ref oho, .ref ohe, .ref otr, .int (nI tcd), .int own_, .int opt], cin g os 51 (mR stp laws z cnt fogs arms kinds faiths places moved)]) rfl (fun H locs hw => ?_)
              refine lv_goto (tgt := 76) hx hb dX11_does_68 (by decide) ?_
              refine lv_iadd hx hb dX11_does_76 ?_
              exact rE_i hf hr hlk hw ⟨congrArg some (by simp only [f_X11_does, if_neg c_1, if_neg c_2, if_pos c_3, if_neg c_4, if_neg c_5, if_pos c_6]), rfl⟩ (show ([oh, os] : List Nat) = [oh, os] from rfl) dX11_does_77
          · refine lv_aload_n hx hb dX11_does_50 rfl (lv_at hl 0 rfl) ?_
            refine lv_iload_n hx hb dX11_does_51 rfl (lv_at hl 1 rfl) ?_
            refine lv_tope (y := nI (ix goer)) hg.1 ?_
            refine mcV hf hk hst hw (c_X11_keenOf l g oh os ok ol ord odd otp olt orw oso osz oit oho ohe otr stp laws z cnt fogs arms kinds faiths places moved isk tpd oat obg otk ovl rmn tcd own_ opt (ix goer) (by omega) (by omega)) (cwV 1 hts gX11_does_X11_keenOf rfl rfl rfl hdV_X11_keenOf ⟨Nat.le_of_ble_eq_true rfl, Nat.le_of_ble_eq_true rfl⟩) [0, 1] rfl rfl 0 rfl rfl rfl hl.1 rfl (Nat.le_of_ble_eq_true rfl) dX11_does_52 ⟨Nat.zero_le _, Nat.zero_le _⟩ (W' := [cob oh 11 [.ref os, .ref ok, .ref ol, .ref ord, .int isk, .ref odd, .ref otp, .int (nI tpd), .ref olt, .int oat, .int obg, .int otk, .int ovl, .ref orw, .int (nI rmn), .ref oso, .ref osz, .ref oit, .ref oho, .ref ohe, .ref otr, .int (nI tcd), .int own_, .int opt], cin g os 51 (mR stp laws z cnt fogs arms kinds faiths places moved)]) rfl (fun H locs hw => ?_)
            refine lv_goto (tgt := 76) hx hb dX11_does_55 (by decide) ?_
            refine lv_iadd hx hb dX11_does_76 ?_
            exact rE_i hf hr hlk hw ⟨congrArg some (by simp only [f_X11_does, if_neg c_1, if_neg c_2, if_pos c_3, if_neg c_4, if_pos c_5]), rfl⟩ (show ([oh, os] : List Nat) = [oh, os] from rfl) dX11_does_77
        · refine lv_aload_n hx hb dX11_does_37 rfl (lv_at hl 0 rfl) ?_
          refine lv_iload_n hx hb dX11_does_38 rfl (lv_at hl 1 rfl) ?_
          refine lv_tope (y := nI (ix goer)) hg.1 ?_
          refine mcV hf hk hst hw (c_X11_sightOf l g oh os ok ol ord odd otp olt orw oso osz oit oho ohe otr stp laws z cnt fogs arms kinds faiths places moved isk tpd oat obg otk ovl rmn tcd own_ opt (ix goer) (by omega) (by omega)) (cwV 1 hts gX11_does_X11_sightOf rfl rfl rfl hdV_X11_sightOf ⟨Nat.le_of_ble_eq_true rfl, Nat.le_of_ble_eq_true rfl⟩) [0, 1] rfl rfl 0 rfl rfl rfl hl.1 rfl (Nat.le_of_ble_eq_true rfl) dX11_does_39 ⟨Nat.zero_le _, Nat.zero_le _⟩ (W' := [cob oh 11 [.ref os, .ref ok, .ref ol, .ref ord, .int isk, .ref odd, .ref otp, .int (nI tpd), .ref olt, .int oat, .int obg, .int otk, .int ovl, .ref orw, .int (nI rmn), .ref oso, .ref osz, .ref oit, .ref oho, .ref ohe, .ref otr, .int (nI tcd), .int own_, .int opt], cin g os 51 (mR stp laws z cnt fogs arms kinds faiths places moved)]) rfl (fun H locs hw => ?_)
          refine lv_goto (tgt := 76) hx hb dX11_does_42 (by decide) ?_
          refine lv_iadd hx hb dX11_does_76 ?_
          exact rE_i hf hr hlk hw ⟨congrArg some (by simp only [f_X11_does, if_neg c_1, if_neg c_2, if_pos c_3, if_pos c_4]), rfl⟩ (show ([oh, os] : List Nat) = [oh, os] from rfl) dX11_does_77
      · refine lv_bipush (v := (-3)) hx hb dX11_does_27 (by decide) ?_
        exact rE_i hf hr hlk hw ⟨congrArg some (by simp only [f_X11_does, if_neg c_1, if_neg c_2, if_neg c_3]), rfl⟩ (show ([oh, os] : List Nat) = [oh, os] from rfl) dX11_does_29
    · refine lv_iconst (v := (-1)) hx hb dX11_does_17 (by decide) ?_
      exact rE_i hf hr hlk hw ⟨congrArg some (by simp only [f_X11_does, if_neg c_1, if_pos c_2]), rfl⟩ (show ([oh, os] : List Nat) = [oh, os] from rfl) dX11_does_18
def f_X11_mind (cnt : Nat) (kinds : Nat → Int32) (goer : Int32) (kind : Int32) : Int32 := if (f_X8_has cnt goer) = 0 then (-1) else (if (nO kind 0 5) = 0 then (-1) else (kinds (ix goer)))
def f_X11_mind_w1 (cnt : Nat) (kinds : Nat → Int32) (goer : Int32) (kind : Int32) : Nat → Int32 := if (f_X8_has cnt goer) = 0 then kinds else (if (nO kind 0 5) = 0 then kinds else (upd kinds (ix goer) kind))
abbrev rmX11_mind : Room := { frames := 2, cells := 0, slots := 0, locals := 43 }
set_option maxHeartbeats 4000000 in
set_option maxRecDepth 100000 in
theorem c_X11_mind (l : Launch) (g : GG) (oh : Nat) (os : Nat) (ok : Nat) (ol : Nat) (ord : Nat) (odd : Nat) (otp : Nat) (olt : Nat) (orw : Nat) (oso : Nat) (osz : Nat) (oit : Nat) (oho : Nat) (ohe : Nat) (otr : Nat) (stp : Nat) (laws : Nat → Int32) (z : Int32) (cnt : Nat) (fogs : Nat → Int32) (arms : Nat → Int32) (kinds : Nat → Int32) (faiths : Nat → Int32) (places : Nat → Int32) (moved : Nat → Int32) (isk : Int32) (tpd : Nat) (oat : Int32) (obg : Int32) (otk : Int32) (ovl : Int32) (rmn : Nat) (tcd : Nat) (own_ : Int32) (opt : Int32) (goer : Int32) (kind : Int32) (hc8 : cnt ≤ 8) : mtR l g yX11_mind wsX11_mind rmX11_mind [.ref oh, .int goer, .int kind] [cob oh 11 [.ref os, .ref ok, .ref ol, .ref ord, .int isk, .ref odd, .ref otp, .int (nI tpd), .ref olt, .int oat, .int obg, .int otk, .int ovl, .ref orw, .int (nI rmn), .ref oso, .ref osz, .ref oit, .ref oho, .ref ohe, .ref otr, .int (nI tcd), .int own_, .int opt], cin g os 51 (mR stp laws z cnt fogs arms kinds faiths places moved)] (fun rv W => rv = (some (.int (f_X11_mind cnt kinds goer kind))) ∧ W = [cob oh 11 [.ref os, .ref ok, .ref ol, .ref ord, .int isk, .ref odd, .ref otp, .int (nI tpd), .ref olt, .int oat, .int obg, .int otk, .int ovl, .ref orw, .int (nI rmn), .ref oso, .ref osz, .ref oit, .ref oho, .ref ohe, .ref otr, .int (nI tcd), .int own_, .int opt], cin g os 51 (mR stp laws z cnt fogs arms (f_X11_mind_w1 cnt kinds goer kind) faiths places moved)]) := by
  refine mtR.of (cc := cX11_mind) (nL := 3) (ret := (some .int)) (own := RX11) (by decide +kernel) rfl rfl (Nat.le_of_ble_eq_true rfl) (fun p e s m below meth c hf hr hlk _ hk hst hw ls hl => ?_)
  have hx := hf.1
  have hb := hf.2.1
  have hts := hf.2.2.2.2
  have hl : lv_has ls 3 [(0, .ref oh), (1, .int goer), (2, .int kind)] := hl
  refine lv_aload_n hx hb dX11_mind_0 rfl (lv_at hl 0 rfl) ?_
  refine lv_iload_n hx hb dX11_mind_1 rfl (lv_at hl 1 rfl) ?_
  refine mcV hf hk hst hw (c_X11_isGoer l g oh os ok ol ord odd otp olt orw oso osz oit oho ohe otr stp laws z cnt fogs arms kinds faiths places moved isk tpd oat obg otk ovl rmn tcd own_ opt goer (by omega)) (cwV 1 hts gX11_mind_X11_isGoer rfl rfl rfl hdV_X11_isGoer ⟨Nat.le_of_ble_eq_true rfl, Nat.le_of_ble_eq_true rfl⟩) [0, 1] rfl rfl 0 rfl rfl rfl hl.1 rfl (Nat.le_of_ble_eq_true rfl) dX11_mind_2 ⟨Nat.zero_le _, Nat.zero_le _⟩ (W' := [cob oh 11 [.ref os, .ref ok, .ref ol, .ref ord, .int isk, .ref odd, .ref otp, .int (nI tpd), .ref olt, .int oat, .int obg, .int otk, .int ovl, .ref orw, .int (nI rmn), .ref oso, .ref osz, .ref oit, .ref oho, .ref ohe, .ref otr, .int (nI tcd), .int own_, .int opt], cin g os 51 (mR stp laws z cnt fogs arms kinds faiths places moved)]) rfl (fun H locs hw => ?_)
  refine lv_if_eq (tgt := 31) hx hb dX11_mind_5 (by decide) (fun c_1 => ?_) (fun c_1 => ?_)
  · refine lv_iconst (v := (-1)) hx hb dX11_mind_31 (by decide) ?_
    exact rE_i hf hr hlk hw ⟨congrArg some (by simp only [f_X11_mind, if_pos c_1]), by simp only [f_X11_mind_w1, if_pos c_1]⟩ (show ([oh, os] : List Nat) = [oh, os] from rfl) dX11_mind_32
  · have hg := has_n hc8 c_1
    have hg2 := hg.2
    refine lv_iload_n hx hb dX11_mind_8 rfl (lv_at hl 2 rfl) ?_
    refine lv_iconst (v := 0) hx hb dX11_mind_9 (by decide) ?_
    refine lv_iconst (v := 5) hx hb dX11_mind_10 (by decide) ?_
    refine mcS hf hk hst hw (c_X11_in1 l g kind 0 5) (va_cwS 3 hts gX11_mind_X11_in1 rfl rfl rfl hdS_X11_in1 ⟨Nat.le_of_ble_eq_true rfl, Nat.le_of_ble_eq_true rfl⟩) [] rfl rfl rfl hl.1 rfl (Nat.le_of_ble_eq_true rfl) dX11_mind_11 ⟨Nat.zero_le _, Nat.zero_le _⟩ (W' := [cob oh 11 [.ref os, .ref ok, .ref ol, .ref ord, .int isk, .ref odd, .ref otp, .int (nI tpd), .ref olt, .int oat, .int obg, .int otk, .int ovl, .ref orw, .int (nI rmn), .ref oso, .ref osz, .ref oit, .ref oho, .ref ohe, .ref otr, .int (nI tcd), .int own_, .int opt], cin g os 51 (mR stp laws z cnt fogs arms kinds faiths places moved)]) rfl (fun H locs hw => ?_)
    refine lv_if_eq (tgt := 31) hx hb dX11_mind_14 (by decide) (fun c_2 => ?_) (fun c_2 => ?_)
    · refine lv_iconst (v := (-1)) hx hb dX11_mind_31 (by decide) ?_
      exact rE_i hf hr hlk hw ⟨congrArg some (by simp only [f_X11_mind, if_neg c_1, if_pos c_2]), by simp only [f_X11_mind_w1, if_neg c_1, if_pos c_2]⟩ (show ([oh, os] : List Nat) = [oh, os] from rfl) dX11_mind_32
    · refine lv_aload_n hx hb dX11_mind_17 rfl (lv_at hl 0 rfl) ?_
      refine lv_bipush (v := 19) hx hb dX11_mind_18 (by decide) ?_
      refine lv_iconst (v := 4) hx hb dX11_mind_20 (by decide) ?_
      refine lv_iload_n hx hb dX11_mind_21 rfl (lv_at hl 1 rfl) ?_
      refine lv_tope (y := nI (ix goer)) hg.1 ?_
      refine lv_imul hx hb dX11_mind_22 ?_
      refine lv_tope (y := nI (4 * (ix goer))) (pk_mul 4 _) ?_
      refine lv_iadd hx hb dX11_mind_23 ?_
      refine lv_tope (y := nI (19 + 4 * (ix goer))) (nI_add 19 _) ?_
      refine lv_iload_n hx hb dX11_mind_24 rfl (lv_at hl 2 rfl) ?_
      refine mcV hf hk hst hw (c_X11_becomes4 l g oh os ok ol ord odd otp olt orw oso osz oit oho ohe otr stp laws z cnt fogs arms kinds faiths places moved isk tpd oat obg otk ovl rmn tcd own_ opt (ix goer) kind (by omega)) (cwV 2 hts gX11_mind_X11_becomes rfl rfl rfl hdV_X11_becomes ⟨Nat.le_of_ble_eq_true rfl, Nat.le_of_ble_eq_true rfl⟩) [0, 1] rfl rfl 0 rfl rfl rfl hl.1 rfl (Nat.le_of_ble_eq_true rfl) dX11_mind_25 ⟨Nat.zero_le _, Nat.zero_le _⟩ (W' := [cob oh 11 [.ref os, .ref ok, .ref ol, .ref ord, .int isk, .ref odd, .ref otp, .int (nI tpd), .ref olt, .int oat, .int obg, .int otk, .int ovl, .ref orw, .int (nI rmn), .ref oso, .ref osz, .ref oit, .ref oho, .ref ohe, .ref otr, .int (nI tcd), .int own_, .int opt], cin g os 51 (mR stp laws z cnt fogs arms (upd kinds (ix goer) kind) faiths places moved)]) rfl (fun H locs hw => ?_)
      refine lv_goto (tgt := 32) hx hb dX11_mind_28 (by decide) ?_
      exact rE_i hf hr hlk hw ⟨congrArg some (by simp only [f_X11_mind, if_neg c_1, if_neg c_2]), by simp only [f_X11_mind_w1, if_neg c_1, if_neg c_2]⟩ (show ([oh, os] : List Nat) = [oh, os] from rfl) dX11_mind_32
def f_X11_trust (cnt : Nat) (faiths : Nat → Int32) (goer : Int32) (v : Int32) : Int32 := if (f_X8_has cnt goer) = 0 then (-1) else (if (nO v 0 99) = 0 then (-1) else (faiths (ix goer)))
def f_X11_trust_w1 (cnt : Nat) (faiths : Nat → Int32) (goer : Int32) (v : Int32) : Nat → Int32 := if (f_X8_has cnt goer) = 0 then faiths else (if (nO v 0 99) = 0 then faiths else (upd faiths (ix goer) v))
abbrev rmX11_trust : Room := { frames := 2, cells := 0, slots := 0, locals := 43 }
set_option maxHeartbeats 4000000 in
set_option maxRecDepth 100000 in
theorem c_X11_trust (l : Launch) (g : GG) (oh : Nat) (os : Nat) (ok : Nat) (ol : Nat) (ord : Nat) (odd : Nat) (otp : Nat) (olt : Nat) (orw : Nat) (oso : Nat) (osz : Nat) (oit : Nat) (oho : Nat) (ohe : Nat) (otr : Nat) (stp : Nat) (laws : Nat → Int32) (z : Int32) (cnt : Nat) (fogs : Nat → Int32) (arms : Nat → Int32) (kinds : Nat → Int32) (faiths : Nat → Int32) (places : Nat → Int32) (moved : Nat → Int32) (isk : Int32) (tpd : Nat) (oat : Int32) (obg : Int32) (otk : Int32) (ovl : Int32) (rmn : Nat) (tcd : Nat) (own_ : Int32) (opt : Int32) (goer : Int32) (v : Int32) (hc8 : cnt ≤ 8) : mtR l g yX11_trust wsX11_trust rmX11_trust [.ref oh, .int goer, .int v] [cob oh 11 [.ref os, .ref ok, .ref ol, .ref ord, .int isk, .ref odd, .ref otp, .int (nI tpd), .ref olt, .int oat, .int obg, .int otk, .int ovl, .ref orw, .int (nI rmn), .ref oso, .ref osz, .ref oit, .ref oho, .ref ohe, .ref otr, .int (nI tcd), .int own_, .int opt], cin g os 51 (mR stp laws z cnt fogs arms kinds faiths places moved)] (fun rv W => rv = (some (.int (f_X11_trust cnt faiths goer v))) ∧ W = [cob oh 11 [.ref os, .ref ok, .ref ol, .ref ord, .int isk, .ref odd, .ref otp, .int (nI tpd), .ref olt, .int oat, .int obg, .int otk, .int ovl, .ref orw, .int (nI rmn), .ref oso, .ref osz, .ref oit, .ref oho, .ref ohe, .ref otr, .int (nI tcd), .int own_, .int opt], cin g os 51 (mR stp laws z cnt fogs arms kinds (f_X11_trust_w1 cnt faiths goer v) places moved)]) := by
  refine mtR.of (cc := cX11_trust) (nL := 3) (ret := (some .int)) (own := RX11) (by decide +kernel) rfl rfl (Nat.le_of_ble_eq_true rfl) (fun p e s m below meth c hf hr hlk _ hk hst hw ls hl => ?_)
  have hx := hf.1
  have hb := hf.2.1
  have hts := hf.2.2.2.2
  have hl : lv_has ls 3 [(0, .ref oh), (1, .int goer), (2, .int v)] := hl
  refine lv_aload_n hx hb dX11_trust_0 rfl (lv_at hl 0 rfl) ?_
  refine lv_iload_n hx hb dX11_trust_1 rfl (lv_at hl 1 rfl) ?_
  refine mcV hf hk hst hw (c_X11_isGoer l g oh os ok ol ord odd otp olt orw oso osz oit oho ohe otr stp laws z cnt fogs arms kinds faiths places moved isk tpd oat obg otk ovl rmn tcd own_ opt goer (by omega)) (cwV 1 hts gX11_trust_X11_isGoer rfl rfl rfl hdV_X11_isGoer ⟨Nat.le_of_ble_eq_true rfl, Nat.le_of_ble_eq_true rfl⟩) [0, 1] rfl rfl 0 rfl rfl rfl hl.1 rfl (Nat.le_of_ble_eq_true rfl) dX11_trust_2 ⟨Nat.zero_le _, Nat.zero_le _⟩ (W' := [cob oh 11 [.ref os, .ref ok, .ref ol, .ref ord, .int isk, .ref odd, .ref otp, .int (nI tpd), .ref olt, .int oat, .int obg, .int otk, .int ovl, .ref orw, .int (nI rmn), .ref oso, .ref osz, .ref oit, .ref oho, .ref ohe, .ref otr, .int (nI tcd), .int own_, .int opt], cin g os 51 (mR stp laws z cnt fogs arms kinds faiths places moved)]) rfl (fun H locs hw => ?_)
  refine lv_if_eq (tgt := 34) hx hb dX11_trust_5 (by decide) (fun c_1 => ?_) (fun c_1 => ?_)
  · refine lv_iconst (v := (-1)) hx hb dX11_trust_34 (by decide) ?_
    exact rE_i hf hr hlk hw ⟨congrArg some (by simp only [f_X11_trust, if_pos c_1]), by simp only [f_X11_trust_w1, if_pos c_1]⟩ (show ([oh, os] : List Nat) = [oh, os] from rfl) dX11_trust_35
  · have hg := has_n hc8 c_1
    have hg2 := hg.2
    refine lv_iload_n hx hb dX11_trust_8 rfl (lv_at hl 2 rfl) ?_
    refine lv_iconst (v := 0) hx hb dX11_trust_9 (by decide) ?_
    refine lv_bipush (v := 99) hx hb dX11_trust_10 (by decide) ?_
    refine mcS hf hk hst hw (c_X11_in1 l g v 0 99) (va_cwS 3 hts gX11_trust_X11_in1 rfl rfl rfl hdS_X11_in1 ⟨Nat.le_of_ble_eq_true rfl, Nat.le_of_ble_eq_true rfl⟩) [] rfl rfl rfl hl.1 rfl (Nat.le_of_ble_eq_true rfl) dX11_trust_12 ⟨Nat.zero_le _, Nat.zero_le _⟩ (W' := [cob oh 11 [.ref os, .ref ok, .ref ol, .ref ord, .int isk, .ref odd, .ref otp, .int (nI tpd), .ref olt, .int oat, .int obg, .int otk, .int ovl, .ref orw, .int (nI rmn), .ref oso, .ref osz, .ref oit, .ref oho, .ref ohe, .ref otr, .int (nI tcd), .int own_, .int opt], cin g os 51 (mR stp laws z cnt fogs arms kinds faiths places moved)]) rfl (fun H locs hw => ?_)
    refine lv_if_eq (tgt := 34) hx hb dX11_trust_15 (by decide) (fun c_2 => ?_) (fun c_2 => ?_)
    · refine lv_iconst (v := (-1)) hx hb dX11_trust_34 (by decide) ?_
      exact rE_i hf hr hlk hw ⟨congrArg some (by simp only [f_X11_trust, if_neg c_1, if_pos c_2]), by simp only [f_X11_trust_w1, if_neg c_1, if_pos c_2]⟩ (show ([oh, os] : List Nat) = [oh, os] from rfl) dX11_trust_35
    · refine lv_aload_n hx hb dX11_trust_18 rfl (lv_at hl 0 rfl) ?_
      refine lv_bipush (v := 19) hx hb dX11_trust_19 (by decide) ?_
      refine lv_iconst (v := 4) hx hb dX11_trust_21 (by decide) ?_
      refine lv_iload_n hx hb dX11_trust_22 rfl (lv_at hl 1 rfl) ?_
      refine lv_tope (y := nI (ix goer)) hg.1 ?_
      refine lv_imul hx hb dX11_trust_23 ?_
      refine lv_tope (y := nI (4 * (ix goer))) (pk_mul 4 _) ?_
      refine lv_iadd hx hb dX11_trust_24 ?_
      refine lv_tope (y := nI (19 + 4 * (ix goer))) (nI_add 19 _) ?_
      refine lv_iconst (v := 1) hx hb dX11_trust_25 (by decide) ?_
      refine lv_iadd hx hb dX11_trust_26 ?_
      refine lv_tope (y := nI (19 + 4 * (ix goer) + 1)) (nI_add _ 1) ?_
      refine lv_iload_n hx hb dX11_trust_27 rfl (lv_at hl 2 rfl) ?_
      refine mcV hf hk hst hw (c_X11_becomes5 l g oh os ok ol ord odd otp olt orw oso osz oit oho ohe otr stp laws z cnt fogs arms kinds faiths places moved isk tpd oat obg otk ovl rmn tcd own_ opt (ix goer) v (by omega)) (cwV 2 hts gX11_trust_X11_becomes rfl rfl rfl hdV_X11_becomes ⟨Nat.le_of_ble_eq_true rfl, Nat.le_of_ble_eq_true rfl⟩) [0, 1] rfl rfl 0 rfl rfl rfl hl.1 rfl (Nat.le_of_ble_eq_true rfl) dX11_trust_28 ⟨Nat.zero_le _, Nat.zero_le _⟩ (W' := [cob oh 11 [.ref os, .ref ok, .ref ol, .ref ord, .int isk, .ref odd, .ref otp, .int (nI tpd), .ref olt, .int oat, .int obg, .int otk, .int ovl, .ref orw, .int (nI rmn), .ref oso, .ref osz, .ref oit, .ref oho, .ref ohe, .ref otr, .int (nI tcd), .int own_, .int opt], cin g os 51 (mR stp laws z cnt fogs arms kinds (upd faiths (ix goer) v) places moved)]) rfl (fun H locs hw => ?_)
      refine lv_goto (tgt := 35) hx hb dX11_trust_31 (by decide) ?_
      exact rE_i hf hr hlk hw ⟨congrArg some (by simp only [f_X11_trust, if_neg c_1, if_neg c_2]), by simp only [f_X11_trust_w1, if_neg c_1, if_neg c_2]⟩ (show ([oh, os] : List Nat) = [oh, os] from rfl) dX11_trust_35
def f_X11_bring (cnt : Nat) (places : Nat → Int32) (goer : Int32) (place : Int32) : Int32 := if (f_X8_has cnt goer) = 0 then (-1) else (if (nO place 0 12) = 0 then (-1) else (places (ix goer)))
def f_X11_bring_w1 (cnt : Nat) (places : Nat → Int32) (goer : Int32) (place : Int32) : Nat → Int32 := if (f_X8_has cnt goer) = 0 then places else (if (nO place 0 12) = 0 then places else (upd places (ix goer) place))
abbrev rmX11_bring : Room := { frames := 2, cells := 0, slots := 0, locals := 43 }
set_option maxHeartbeats 4000000 in
set_option maxRecDepth 100000 in
theorem c_X11_bring (l : Launch) (g : GG) (oh : Nat) (os : Nat) (ok : Nat) (ol : Nat) (ord : Nat) (odd : Nat) (otp : Nat) (olt : Nat) (orw : Nat) (oso : Nat) (osz : Nat) (oit : Nat) (oho : Nat) (ohe : Nat) (otr : Nat) (stp : Nat) (laws : Nat → Int32) (z : Int32) (cnt : Nat) (fogs : Nat → Int32) (arms : Nat → Int32) (kinds : Nat → Int32) (faiths : Nat → Int32) (places : Nat → Int32) (moved : Nat → Int32) (isk : Int32) (tpd : Nat) (oat : Int32) (obg : Int32) (otk : Int32) (ovl : Int32) (rmn : Nat) (tcd : Nat) (own_ : Int32) (opt : Int32) (goer : Int32) (place : Int32) (hc8 : cnt ≤ 8) : mtR l g yX11_bring wsX11_bring rmX11_bring [.ref oh, .int goer, .int place] [cob oh 11 [.ref os, .ref ok, .ref ol, .ref ord, .int isk, .ref odd, .ref otp, .int (nI tpd), .ref olt, .int oat, .int obg, .int otk, .int ovl, .ref orw, .int (nI rmn), .ref oso, .ref osz, .ref oit, .ref oho, .ref ohe, .ref otr, .int (nI tcd), .int own_, .int opt], cin g os 51 (mR stp laws z cnt fogs arms kinds faiths places moved)] (fun rv W => rv = (some (.int (f_X11_bring cnt places goer place))) ∧ W = [cob oh 11 [.ref os, .ref ok, .ref ol, .ref ord, .int isk, .ref odd, .ref otp, .int (nI tpd), .ref olt, .int oat, .int obg, .int otk, .int ovl, .ref orw, .int (nI rmn), .ref oso, .ref osz, .ref oit, .ref oho, .ref ohe, .ref otr, .int (nI tcd), .int own_, .int opt], cin g os 51 (mR stp laws z cnt fogs arms kinds faiths (f_X11_bring_w1 cnt places goer place) moved)]) := by
  refine mtR.of (cc := cX11_bring) (nL := 3) (ret := (some .int)) (own := RX11) (by decide +kernel) rfl rfl (Nat.le_of_ble_eq_true rfl) (fun p e s m below meth c hf hr hlk _ hk hst hw ls hl => ?_)
  have hx := hf.1
  have hb := hf.2.1
  have hts := hf.2.2.2.2
  have hl : lv_has ls 3 [(0, .ref oh), (1, .int goer), (2, .int place)] := hl
  refine lv_aload_n hx hb dX11_bring_0 rfl (lv_at hl 0 rfl) ?_
  refine lv_iload_n hx hb dX11_bring_1 rfl (lv_at hl 1 rfl) ?_
  refine mcV hf hk hst hw (c_X11_isGoer l g oh os ok ol ord odd otp olt orw oso osz oit oho ohe otr stp laws z cnt fogs arms kinds faiths places moved isk tpd oat obg otk ovl rmn tcd own_ opt goer (by omega)) (cwV 1 hts gX11_bring_X11_isGoer rfl rfl rfl hdV_X11_isGoer ⟨Nat.le_of_ble_eq_true rfl, Nat.le_of_ble_eq_true rfl⟩) [0, 1] rfl rfl 0 rfl rfl rfl hl.1 rfl (Nat.le_of_ble_eq_true rfl) dX11_bring_2 ⟨Nat.zero_le _, Nat.zero_le _⟩ (W' := [cob oh 11 [.ref os, .ref ok, .ref ol, .ref ord, .int isk, .ref odd, .ref otp, .int (nI tpd), .ref olt, .int oat, .int obg, .int otk, .int ovl, .ref orw, .int (nI rmn), .ref oso, .ref osz, .ref oit, .ref oho, .ref ohe, .ref otr, .int (nI tcd), .int own_, .int opt], cin g os 51 (mR stp laws z cnt fogs arms kinds faiths places moved)]) rfl (fun H locs hw => ?_)
  refine lv_if_eq (tgt := 34) hx hb dX11_bring_5 (by decide) (fun c_1 => ?_) (fun c_1 => ?_)
  · refine lv_iconst (v := (-1)) hx hb dX11_bring_34 (by decide) ?_
    exact rE_i hf hr hlk hw ⟨congrArg some (by simp only [f_X11_bring, if_pos c_1]), by simp only [f_X11_bring_w1, if_pos c_1]⟩ (show ([oh, os] : List Nat) = [oh, os] from rfl) dX11_bring_35
  · have hg := has_n hc8 c_1
    have hg2 := hg.2
    refine lv_iload_n hx hb dX11_bring_8 rfl (lv_at hl 2 rfl) ?_
    refine lv_iconst (v := 0) hx hb dX11_bring_9 (by decide) ?_
    refine lv_bipush (v := 12) hx hb dX11_bring_10 (by decide) ?_
    refine mcS hf hk hst hw (c_X11_in1 l g place 0 12) (va_cwS 3 hts gX11_bring_X11_in1 rfl rfl rfl hdS_X11_in1 ⟨Nat.le_of_ble_eq_true rfl, Nat.le_of_ble_eq_true rfl⟩) [] rfl rfl rfl hl.1 rfl (Nat.le_of_ble_eq_true rfl) dX11_bring_12 ⟨Nat.zero_le _, Nat.zero_le _⟩ (W' := [cob oh 11 [.ref os, .ref ok, .ref ol, .ref ord, .int isk, .ref odd, .ref otp, .int (nI tpd), .ref olt, .int oat, .int obg, .int otk, .int ovl, .ref orw, .int (nI rmn), .ref oso, .ref osz, .ref oit, .ref oho, .ref ohe, .ref otr, .int (nI tcd), .int own_, .int opt], cin g os 51 (mR stp laws z cnt fogs arms kinds faiths places moved)]) rfl (fun H locs hw => ?_)
    refine lv_if_eq (tgt := 34) hx hb dX11_bring_15 (by decide) (fun c_2 => ?_) (fun c_2 => ?_)
    · refine lv_iconst (v := (-1)) hx hb dX11_bring_34 (by decide) ?_
      exact rE_i hf hr hlk hw ⟨congrArg some (by simp only [f_X11_bring, if_neg c_1, if_pos c_2]), by simp only [f_X11_bring_w1, if_neg c_1, if_pos c_2]⟩ (show ([oh, os] : List Nat) = [oh, os] from rfl) dX11_bring_35
    · refine lv_aload_n hx hb dX11_bring_18 rfl (lv_at hl 0 rfl) ?_
      refine lv_bipush (v := 19) hx hb dX11_bring_19 (by decide) ?_
      refine lv_iconst (v := 4) hx hb dX11_bring_21 (by decide) ?_
      refine lv_iload_n hx hb dX11_bring_22 rfl (lv_at hl 1 rfl) ?_
      refine lv_tope (y := nI (ix goer)) hg.1 ?_
      refine lv_imul hx hb dX11_bring_23 ?_
      refine lv_tope (y := nI (4 * (ix goer))) (pk_mul 4 _) ?_
      refine lv_iadd hx hb dX11_bring_24 ?_
      refine lv_tope (y := nI (19 + 4 * (ix goer))) (nI_add 19 _) ?_
      refine lv_iconst (v := 2) hx hb dX11_bring_25 (by decide) ?_
      refine lv_iadd hx hb dX11_bring_26 ?_
      refine lv_tope (y := nI (19 + 4 * (ix goer) + 2)) (nI_add _ 2) ?_
      refine lv_iload_n hx hb dX11_bring_27 rfl (lv_at hl 2 rfl) ?_
      refine mcV hf hk hst hw (c_X11_becomes6 l g oh os ok ol ord odd otp olt orw oso osz oit oho ohe otr stp laws z cnt fogs arms kinds faiths places moved isk tpd oat obg otk ovl rmn tcd own_ opt (ix goer) place (by omega)) (cwV 2 hts gX11_bring_X11_becomes rfl rfl rfl hdV_X11_becomes ⟨Nat.le_of_ble_eq_true rfl, Nat.le_of_ble_eq_true rfl⟩) [0, 1] rfl rfl 0 rfl rfl rfl hl.1 rfl (Nat.le_of_ble_eq_true rfl) dX11_bring_28 ⟨Nat.zero_le _, Nat.zero_le _⟩ (W' := [cob oh 11 [.ref os, .ref ok, .ref ol, .ref ord, .int isk, .ref odd, .ref otp, .int (nI tpd), .ref olt, .int oat, .int obg, .int otk, .int ovl, .ref orw, .int (nI rmn), .ref oso, .ref osz, .ref oit, .ref oho, .ref ohe, .ref otr, .int (nI tcd), .int own_, .int opt], cin g os 51 (mR stp laws z cnt fogs arms kinds faiths (upd places (ix goer) place) moved)]) rfl (fun H locs hw => ?_)
      refine lv_goto (tgt := 35) hx hb dX11_bring_31 (by decide) ?_
      exact rE_i hf hr hlk hw ⟨congrArg some (by simp only [f_X11_bring, if_neg c_1, if_neg c_2]), by simp only [f_X11_bring_w1, if_neg c_1, if_neg c_2]⟩ (show ([oh, os] : List Nat) = [oh, os] from rfl) dX11_bring_35
abbrev rmX11_seed : Room := { frames := 1, cells := 0, slots := 0, locals := 23 }
set_option maxHeartbeats 4000000 in
set_option maxRecDepth 100000 in
theorem c_X11_seed (l : Launch) (g : GG) (oh : Nat) (os : Nat) (ok : Nat) (ol : Nat) (ord : Nat) (odd : Nat) (otp : Nat) (olt : Nat) (orw : Nat) (oso : Nat) (osz : Nat) (oit : Nat) (oho : Nat) (ohe : Nat) (otr : Nat) (stp : Nat) (laws : Nat → Int32) (z : Int32) (cnt : Nat) (fogs : Nat → Int32) (arms : Nat → Int32) (kinds : Nat → Int32) (faiths : Nat → Int32) (places : Nat → Int32) (moved : Nat → Int32) (isk : Int32) (tpd : Nat) (oat : Int32) (obg : Int32) (otk : Int32) (ovl : Int32) (rmn : Nat) (tcd : Nat) (own_ : Int32) (opt : Int32) (v : Int32) : mtR l g yX11_seed wsX11_seed rmX11_seed [.ref oh, .int v] [cob oh 11 [.ref os, .ref ok, .ref ol, .ref ord, .int isk, .ref odd, .ref otp, .int (nI tpd), .ref olt, .int oat, .int obg, .int otk, .int ovl, .ref orw, .int (nI rmn), .ref oso, .ref osz, .ref oit, .ref oho, .ref ohe, .ref otr, .int (nI tcd), .int own_, .int opt], cin g os 51 (mR stp laws z cnt fogs arms kinds faiths places moved)] (fun rv W => rv = (some (.int z)) ∧ W = [cob oh 11 [.ref os, .ref ok, .ref ol, .ref ord, .int isk, .ref odd, .ref otp, .int (nI tpd), .ref olt, .int oat, .int obg, .int otk, .int ovl, .ref orw, .int (nI rmn), .ref oso, .ref osz, .ref oit, .ref oho, .ref ohe, .ref otr, .int (nI tcd), .int own_, .int opt], cin g os 51 (mR stp laws v cnt fogs arms kinds faiths places moved)]) := by
  refine mtR.of (cc := cX11_seed) (nL := 2) (ret := (some .int)) (own := RX11) (by decide +kernel) rfl rfl (Nat.le_of_ble_eq_true rfl) (fun p e s m below meth c hf hr hlk _ hk hst hw ls hl => ?_)
  have hx := hf.1
  have hb := hf.2.1
  have hts := hf.2.2.2.2
  have hl : lv_has ls 2 [(0, .ref oh), (1, .int v)] := hl
  refine lv_aload_n hx hb dX11_seed_0 rfl (lv_at hl 0 rfl) ?_
  refine lv_iconst (v := 5) hx hb dX11_seed_1 (by decide) ?_
  refine lv_iload_n hx hb dX11_seed_2 rfl (lv_at hl 1 rfl) ?_
  refine mcV hf hk hst hw (c_X11_becomes1 l g oh os ok ol ord odd otp olt orw oso osz oit oho ohe otr stp laws z cnt fogs arms kinds faiths places moved isk tpd oat obg otk ovl rmn tcd own_ opt v) (cwV 2 hts gX11_seed_X11_becomes rfl rfl rfl hdV_X11_becomes ⟨Nat.le_of_ble_eq_true rfl, Nat.le_of_ble_eq_true rfl⟩) [0, 1] rfl rfl 0 rfl rfl rfl hl.1 rfl (Nat.le_of_ble_eq_true rfl) dX11_seed_3 ⟨Nat.zero_le _, Nat.zero_le _⟩ (W' := [cob oh 11 [.ref os, .ref ok, .ref ol, .ref ord, .int isk, .ref odd, .ref otp, .int (nI tpd), .ref olt, .int oat, .int obg, .int otk, .int ovl, .ref orw, .int (nI rmn), .ref oso, .ref osz, .ref oit, .ref oho, .ref ohe, .ref otr, .int (nI tcd), .int own_, .int opt], cin g os 51 (mR stp laws v cnt fogs arms kinds faiths places moved)]) rfl (fun H locs hw => ?_)
  exact rE_i hf hr hlk hw ⟨rfl, rfl⟩ (show ([oh, os] : List Nat) = [oh, os] from rfl) dX11_seed_6
theorem hdV_X11_goes : yX11_goes.cls = RX11 ∧ yX11_goes.cls ≠ "java/lang/invoke/MethodHandle" ∧ yX11_goes.cls ≠ "java/lang/invoke/VarHandle" ∧ (parseMethodDescriptor yX11_goes.desc).map (fun d => d.parameters.length) = some 1 := by decide +kernel
theorem hdV_X11_setOf : yX11_setOf.cls = RX11 ∧ yX11_setOf.cls ≠ "java/lang/invoke/MethodHandle" ∧ yX11_setOf.cls ≠ "java/lang/invoke/VarHandle" ∧ (parseMethodDescriptor yX11_setOf.desc).map (fun d => d.parameters.length) = some 1 := by decide +kernel
theorem hdS_X11_ones : yX11_ones.cls ≠ "java/lang/invoke/MethodHandle" ∧ yX11_ones.cls ≠ "java/lang/invoke/VarHandle" ∧ (parseMethodDescriptor yX11_ones.desc).map (fun d => d.parameters.length) = some 1 := by decide +kernel
abbrev rmX11_steps : Room := { frames := 7, cells := 0, slots := 0, locals := 154 }
set_option maxHeartbeats 4000000 in
set_option maxRecDepth 100000 in
theorem c_X11_steps (l : Launch) (g : GG) (oh : Nat) (os : Nat) (ok : Nat) (ol : Nat) (ord : Nat) (odd : Nat) (otp : Nat) (olt : Nat) (orw : Nat) (oso : Nat) (osz : Nat) (oit : Nat) (oho : Nat) (ohe : Nat) (otr : Nat) (stp : Nat) (laws : Nat → Int32) (z : Int32) (cnt : Nat) (fogs : Nat → Int32) (arms : Nat → Int32) (kinds : Nat → Int32) (faiths : Nat → Int32) (places : Nat → Int32) (moved : Nat → Int32) (isk : Int32) (tpd : Nat) (oat : Int32) (obg : Int32) (otk : Int32) (ovl : Int32) (rmn : Nat) (tcd : Nat) (own_ : Int32) (opt : Int32) (dd : Nat → Int32) (n : Int32) (hc8 : cnt ≤ 8) (hsp : stp < 2 ^ 29) (hpl : ∀ j, j < cnt → plOk (places j)) (hmo_ : ∀ j, j < cnt → moOk (moved j)) : mtR l g yX11_steps wsX11_steps rmX11_steps [.ref oh, .int n] [cob oh 11 [.ref os, .ref ok, .ref ol, .ref ord, .int isk, .ref odd, .ref otp, .int (nI tpd), .ref olt, .int oat, .int obg, .int otk, .int ovl, .ref orw, .int (nI rmn), .ref oso, .ref osz, .ref oit, .ref oho, .ref ohe, .ref otr, .int (nI tcd), .int own_, .int opt], cin g os 51 (mR stp laws z cnt fogs arms kinds faiths places moved), cin g odd 8 dd] (fun rv W => rv = (some (.int (if f_X10_isOutside n 1 60 = 0 then bcF (setTo (thrs (stA laws fogs arms kinds cnt stp faiths places moved (ix n)).2.1) cnt) else -1))) ∧ ∃ (j0 : Nat → Int32), W = [cob oh 11 [.ref os, .ref ok, .ref ol, .ref ord, .int isk, .ref odd, .ref otp, .int (nI tpd), .ref olt, .int oat, .int obg, .int otk, .int ovl, .ref orw, .int (nI rmn), .ref oso, .ref osz, .ref oit, .ref oho, .ref ohe, .ref otr, .int (nI tcd), .int own_, .int opt], cin g os 51 (mR (if f_X10_isOutside n 1 60 = 0 then stp + ix n else stp) laws z cnt fogs arms kinds (if f_X10_isOutside n 1 60 = 0 then (stA laws fogs arms kinds cnt stp faiths places moved (ix n)).1 else faiths) (if f_X10_isOutside n 1 60 = 0 then (stA laws fogs arms kinds cnt stp faiths places moved (ix n)).2.1 else places) (if f_X10_isOutside n 1 60 = 0 then (stA laws fogs arms kinds cnt stp faiths places moved (ix n)).2.2 else moved)), cin g odd 8 j0]) := by
  refine mtR.of (cc := cX11_steps) (nL := 2) (ret := (some .int)) (own := RX11) (by decide +kernel) rfl rfl (Nat.le_of_ble_eq_true rfl) (fun p e s m below meth c hf hr hlk _ hk hst hw ls hl => ?_)
  have hx := hf.1
  have hb := hf.2.1
  have hts := hf.2.2.2.2
  have hl : lv_has ls 2 [(0, .ref oh), (1, .int n)] := hl
  refine lv_iload_n hx hb dX11_steps_0 rfl (lv_at hl 1 rfl) ?_
  refine lv_iconst (v := 1) hx hb dX11_steps_1 (by decide) ?_
  refine lv_bipush (v := 60) hx hb dX11_steps_2 (by decide) ?_
  refine mcS hf hk hst hw (c_X11_in1 l g n 1 60) (va_cwS 3 hts gX11_steps_X11_in1 rfl rfl rfl hdS_X11_in1 ⟨Nat.le_of_ble_eq_true rfl, Nat.le_of_ble_eq_true rfl⟩) [] rfl rfl rfl hl.1 rfl (Nat.le_of_ble_eq_true rfl) dX11_steps_4 ⟨Nat.zero_le _, Nat.zero_le _⟩ (W' := [cob oh 11 [.ref os, .ref ok, .ref ol, .ref ord, .int isk, .ref odd, .ref otp, .int (nI tpd), .ref olt, .int oat, .int obg, .int otk, .int ovl, .ref orw, .int (nI rmn), .ref oso, .ref osz, .ref oit, .ref oho, .ref ohe, .ref otr, .int (nI tcd), .int own_, .int opt], cin g os 51 (mR stp laws z cnt fogs arms kinds faiths places moved), cin g odd 8 dd]) rfl (fun H locs hw => ?_)
  refine lv_if_ne (tgt := 12) hx hb dX11_steps_7 (by decide) (fun c_1 => ?_) (fun c_1 => ?_)
  · have hn := out_n1 (M := 1) (N := 60) (by decide) (by decide) (nO_1 c_1)
    have hn2 := hn.2.1
    have hn3 := hn.2.2
    refine lv_aload_n hx hb dX11_steps_12 rfl (lv_at hl 0 rfl) ?_
    refine lv_iload_n hx hb dX11_steps_13 rfl (lv_at hl 1 rfl) ?_
    refine lv_tope (y := nI (ix n)) hn.1 ?_
    refine mcV hf hk hst hw (c_X11_goes l g oh os ok ol ord odd otp olt orw oso osz oit oho ohe otr stp laws z cnt fogs arms kinds faiths places moved isk tpd oat obg otk ovl rmn tcd own_ opt dd (ix n) (by omega) (by omega) (by omega) (by assumption) (by assumption)) (cwV 1 hts gX11_steps_X11_goes rfl rfl rfl hdV_X11_goes ⟨Nat.le_of_ble_eq_true rfl, Nat.le_of_ble_eq_true rfl⟩) [0, 1, 2] rfl rfl 0 rfl rfl rfl hl.1 rfl (Nat.le_of_ble_eq_true rfl) dX11_steps_14 ⟨Nat.zero_le _, Nat.zero_le _⟩ (W' := [cob oh 11 [.ref os, .ref ok, .ref ol, .ref ord, .int isk, .ref odd, .ref otp, .int (nI tpd), .ref olt, .int oat, .int obg, .int otk, .int ovl, .ref orw, .int (nI rmn), .ref oso, .ref osz, .ref oit, .ref oho, .ref ohe, .ref otr, .int (nI tcd), .int own_, .int opt], cin g os 51 (mR (stp + (ix n)) laws z cnt fogs arms kinds ((stA laws fogs arms kinds cnt stp faiths places moved (ix n)).1) ((stA laws fogs arms kinds cnt stp faiths places moved (ix n)).2.1) ((stA laws fogs arms kinds cnt stp faiths places moved (ix n)).2.2)), cin g odd 8 (stE laws fogs arms kinds cnt stp faiths places moved dd (ix n))]) rfl (fun H locs hw => ?_)
    refine lv_aload_n hx hb dX11_steps_17 rfl (lv_at hl 0 rfl) ?_
    refine lv_iconst (v := 1) hx hb dX11_steps_18 (by decide) ?_
    refine mcV hf hk hst hw (c_X11_setOf1 l g oh os ok ol ord odd otp olt orw oso osz oit oho ohe otr (stp + (ix n)) laws z cnt fogs arms kinds ((stA laws fogs arms kinds cnt stp faiths places moved (ix n)).1) ((stA laws fogs arms kinds cnt stp faiths places moved (ix n)).2.1) ((stA laws fogs arms kinds cnt stp faiths places moved (ix n)).2.2) isk tpd oat obg otk ovl rmn tcd own_ opt (by omega) ((stA_ok hpl hmo_ _).1)) (cwV 1 hts gX11_steps_X11_setOf rfl rfl rfl hdV_X11_setOf ⟨Nat.le_of_ble_eq_true rfl, Nat.le_of_ble_eq_true rfl⟩) [0, 1] rfl rfl 0 rfl rfl rfl hl.1 rfl (Nat.le_of_ble_eq_true rfl) dX11_steps_19 ⟨Nat.zero_le _, Nat.zero_le _⟩ (W' := [cob oh 11 [.ref os, .ref ok, .ref ol, .ref ord, .int isk, .ref odd, .ref otp, .int (nI tpd), .ref olt, .int oat, .int obg, .int otk, .int ovl, .ref orw, .int (nI rmn), .ref oso, .ref osz, .ref oit, .ref oho, .ref ohe, .ref otr, .int (nI tcd), .int own_, .int opt], cin g os 51 (mR (stp + (ix n)) laws z cnt fogs arms kinds ((stA laws fogs arms kinds cnt stp faiths places moved (ix n)).1) ((stA laws fogs arms kinds cnt stp faiths places moved (ix n)).2.1) ((stA laws fogs arms kinds cnt stp faiths places moved (ix n)).2.2)), cin g odd 8 (stE laws fogs arms kinds cnt stp faiths places moved dd (ix n))]) rfl (fun H locs hw => ?_)
    refine mcS hf hk hst hw (c_X11_ones l g (setTo (thrs ((stA laws fogs arms kinds cnt stp faiths places moved (ix n)).2.1)) cnt) (setTo_ix _ hc8)) (va_cwS 1 hts gX11_steps_X11_ones rfl rfl rfl hdS_X11_ones ⟨Nat.le_of_ble_eq_true rfl, Nat.le_of_ble_eq_true rfl⟩) [] rfl rfl rfl hl.1 rfl (Nat.le_of_ble_eq_true rfl) dX11_steps_22 ⟨Nat.zero_le _, Nat.zero_le _⟩ (W' := [cob oh 11 [.ref os, .ref ok, .ref ol, .ref ord, .int isk, .ref odd, .ref otp, .int (nI tpd), .ref olt, .int oat, .int obg, .int otk, .int ovl, .ref orw, .int (nI rmn), .ref oso, .ref osz, .ref oit, .ref oho, .ref ohe, .ref otr, .int (nI tcd), .int own_, .int opt], cin g os 51 (mR (stp + (ix n)) laws z cnt fogs arms kinds ((stA laws fogs arms kinds cnt stp faiths places moved (ix n)).1) ((stA laws fogs arms kinds cnt stp faiths places moved (ix n)).2.1) ((stA laws fogs arms kinds cnt stp faiths places moved (ix n)).2.2)), cin g odd 8 (stE laws fogs arms kinds cnt stp faiths places moved dd (ix n))]) rfl (fun H locs hw => ?_)
    exact rE_i hf hr hlk hw ⟨congrArg some (by simp only [if_pos (nO_1 c_1)]), (stE laws fogs arms kinds cnt stp faiths places moved dd (ix n)), by simp only [if_pos (nO_1 c_1)]⟩ (show ([oh, os, odd] : List Nat) = [oh, os, odd] from rfl) dX11_steps_25
  · refine lv_iconst (v := (-1)) hx hb dX11_steps_10 (by decide) ?_
    exact rE_i hf hr hlk hw ⟨congrArg some (by simp only [if_neg (nO_0 c_1)]), dd, by simp only [if_neg (nO_0 c_1)]⟩ (show ([oh, os, odd] : List Nat) = [oh, os, odd] from rfl) dX11_steps_11
abbrev rmX11_draw : Room := { frames := 0, cells := 0, slots := 0, locals := 0 }
set_option maxHeartbeats 4000000 in
set_option maxRecDepth 100000 in
theorem c_X11_draw (l : Launch) (g : GG) (oh : Nat) (os : Nat) (ok : Nat) (ol : Nat) (ord : Nat) (odd : Nat) (otp : Nat) (olt : Nat) (orw : Nat) (oso : Nat) (osz : Nat) (oit : Nat) (oho : Nat) (ohe : Nat) (otr : Nat) (stp : Nat) (laws : Nat → Int32) (z : Int32) (cnt : Nat) (fogs : Nat → Int32) (arms : Nat → Int32) (kinds : Nat → Int32) (faiths : Nat → Int32) (places : Nat → Int32) (moved : Nat → Int32) (isk : Int32) (tpd : Nat) (oat : Int32) (obg : Int32) (otk : Int32) (ovl : Int32) (rmn : Nat) (tcd : Nat) (own_ : Int32) (opt : Int32) : mt l g yX11_draw wsX11_draw rmX11_draw [.ref oh] [cob oh 11 [.ref os, .ref ok, .ref ol, .ref ord, .int isk, .ref odd, .ref otp, .int (nI tpd), .ref olt, .int oat, .int obg, .int otk, .int ovl, .ref orw, .int (nI rmn), .ref oso, .ref osz, .ref oit, .ref oho, .ref ohe, .ref otr, .int (nI tcd), .int own_, .int opt], cin g os 51 (mR stp laws z cnt fogs arms kinds faiths places moved)] (some (.int (drV z))) [cob oh 11 [.ref os, .ref ok, .ref ol, .ref ord, .int isk, .ref odd, .ref otp, .int (nI tpd), .ref olt, .int oat, .int obg, .int otk, .int ovl, .ref orw, .int (nI rmn), .ref oso, .ref osz, .ref oit, .ref oho, .ref ohe, .ref otr, .int (nI tcd), .int own_, .int opt], cin g os 51 (mR stp laws (drZ z) cnt fogs arms kinds faiths places moved)] := by
  refine mt.of (cc := cX11_draw) (nL := 1) (ret := (some .int)) (own := RX11) (by decide +kernel) rfl rfl (show ([oh, os] : List Nat) = [oh, os] from rfl) (Nat.le_of_ble_eq_true rfl) (fun p e s m below meth c hf hr hlk _ hk hst hw ls hl => ?_)
  have hx := hf.1
  have hb := hf.2.1
  have hts := hf.2.2.2.2
  have hl : lv_has ls 1 [(0, .ref oh)] := hl
  have hinX11 : ∀ w ∈ u_ws RX11 TX11 24, w ∈ wsX11_draw := fun w h => List.mem_cons_of_mem _ (List.mem_append_right _ h)
  have w_0 : Cond.fieldLink RX11 9 "LightManModel" "s" "[I" ∈ wsX11_draw := List.mem_of_getElem? (i := 1) rfl
  have w_1 : Cond.constant RX11 186 (1103515245) ∈ wsX11_draw := List.mem_of_getElem? (i := 2) rfl
  refine lv_aload_n hx hb dX11_draw_0 rfl (lv_at hl 0 rfl) ?_
  refine rg hf hk hw hinX11 0 rfl rfl 0 (by decide) w_0 rfl dX11_draw_1 ?_
  refine lv_iconst (v := 5) hx hb dX11_draw_4 (by decide) ?_
  refine lv_aload_n hx hb dX11_draw_5 rfl (lv_at hl 0 rfl) ?_
  refine rg hf hk hw hinX11 0 rfl rfl 0 (by decide) w_0 rfl dX11_draw_6 ?_
  refine lv_iconst (v := 5) hx hb dX11_draw_9 (by decide) ?_
  refine rij hf hk hw 1 rfl (j := 5) (vp_in_nI (n := 5) (by omega) (by omega)) (rfl) dX11_draw_10 ?_
  refine lv_tope (y := z) (rfl) ?_
  refine lv_ldc hx hb hf.2.2.2.1 (hts _ w_1) dX11_draw_11 ?_
  refine lv_imul hx hb dX11_draw_13 ?_
  refine lv_sipush (v := 12345) hx hb dX11_draw_14 (by decide) ?_
  refine lv_iadd hx hb dX11_draw_17 ?_
  refine lv_tope (y := drZ z) (by simp only [drZ]) ?_
  refine rse hf hk hw 1 rfl (j := 5) (vp_in_nI (n := 5) (by omega) (by omega)) (rfl) (mU_z) dX11_draw_18 (W' := [cob oh 11 [.ref os, .ref ok, .ref ol, .ref ord, .int isk, .ref odd, .ref otp, .int (nI tpd), .ref olt, .int oat, .int obg, .int otk, .int ovl, .ref orw, .int (nI rmn), .ref oso, .ref osz, .ref oit, .ref oho, .ref ohe, .ref otr, .int (nI tcd), .int own_, .int opt], cin g os 51 (mR stp laws (drZ z) cnt fogs arms kinds faiths places moved)]) rfl (fun H locs hw => ?_)
  refine lv_aload_n hx hb dX11_draw_19 rfl (lv_at hl 0 rfl) ?_
  refine rg hf hk hw hinX11 0 rfl rfl 0 (by decide) w_0 rfl dX11_draw_20 ?_
  refine lv_iconst (v := 5) hx hb dX11_draw_23 (by decide) ?_
  refine rij hf hk hw 1 rfl (j := 5) (vp_in_nI (n := 5) (by omega) (by omega)) (rfl) dX11_draw_24 ?_
  refine lv_tope (y := drZ z) (rfl) ?_
  refine lv_bipush (v := 16) hx hb dX11_draw_25 (by decide) ?_
  refine lv_iushr hx hb dX11_draw_27 rfl ?_
  refine lv_tope (y := drV z) (by simp only [drV]) ?_
  exact re_i hf hr hlk hw (rfl) (rfl) dX11_draw_28
theorem hdV_X11_draw : yX11_draw.cls = RX11 ∧ yX11_draw.cls ≠ "java/lang/invoke/MethodHandle" ∧ yX11_draw.cls ≠ "java/lang/invoke/VarHandle" ∧ (parseMethodDescriptor yX11_draw.desc).map (fun d => d.parameters.length) = some 0 := by decide +kernel
abbrev rmX11_byDraws : Room := { frames := 6, cells := 0, slots := 0, locals := 132 }
set_option maxHeartbeats 4000000 in
set_option maxRecDepth 100000 in
theorem c_X11_byDraws (l : Launch) (g : GG) (oh : Nat) (os : Nat) (ok : Nat) (ol : Nat) (ord : Nat) (odd : Nat) (otp : Nat) (olt : Nat) (orw : Nat) (oso : Nat) (osz : Nat) (oit : Nat) (oho : Nat) (ohe : Nat) (otr : Nat) (stp : Nat) (laws : Nat → Int32) (z : Int32) (cnt : Nat) (fogs : Nat → Int32) (arms : Nat → Int32) (kinds : Nat → Int32) (faiths : Nat → Int32) (places : Nat → Int32) (moved : Nat → Int32) (isk : Int32) (tpd : Nat) (oat : Int32) (obg : Int32) (otk : Int32) (ovl : Int32) (rmn : Nat) (tcd : Nat) (own_ : Int32) (opt : Int32) (dd : Nat → Int32) (hc8 : cnt ≤ 8) (hsp : stp < 2 ^ 30) (hpl : ∀ j, j < cnt → plOk (places j)) (hmo_ : ∀ j, j < cnt → moOk (moved j)) : mt l g yX11_byDraws wsX11_byDraws rmX11_byDraws [.ref oh] [cob oh 11 [.ref os, .ref ok, .ref ol, .ref ord, .int isk, .ref odd, .ref otp, .int (nI tpd), .ref olt, .int oat, .int obg, .int otk, .int ovl, .ref orw, .int (nI rmn), .ref oso, .ref osz, .ref oit, .ref oho, .ref ohe, .ref otr, .int (nI tcd), .int own_, .int opt], cin g os 51 (mR stp laws z cnt fogs arms kinds faiths places moved), cin g odd 8 dd] none [cob oh 11 [.ref os, .ref ok, .ref ol, .ref ord, .int isk, .ref odd, .ref otp, .int (nI tpd), .ref olt, .int oat, .int obg, .int otk, .int ovl, .ref orw, .int (nI rmn), .ref oso, .ref osz, .ref oit, .ref oho, .ref ohe, .ref otr, .int (nI tcd), .int own_, .int opt], cin g os 51 (mR (stp + 1) laws (drZ2 z cnt) cnt fogs arms kinds (goF laws fogs arms stp kinds (drF laws faiths z cnt) places cnt) (goP laws fogs arms stp kinds (drF laws faiths z cnt) places cnt) (goM laws fogs arms stp kinds places moved cnt)), cin g odd 8 (goE laws fogs arms stp kinds (drF laws faiths z cnt) places dd cnt)] := by
  refine mt.of (cc := cX11_byDraws) (nL := 2) (ret := none) (own := RX11) (by decide +kernel) rfl rfl (show ([oh, os, odd] : List Nat) = [oh, os, odd] from rfl) (Nat.le_of_ble_eq_true rfl) (fun p e s m below meth c hf hr hlk _ hk hst hw ls hl => ?_)
  have hx := hf.1
  have hb := hf.2.1
  have hts := hf.2.2.2.2
  have hl : lv_has ls 2 [(0, .ref oh)] := hl
  have hinX11 : ∀ w ∈ u_ws RX11 TX11 24, w ∈ wsX11_byDraws := fun w h => List.mem_cons_of_mem _ (List.mem_append_right _ h)
  have w_0 : Cond.fieldLink RX11 9 "LightManModel" "s" "[I" ∈ wsX11_byDraws := List.mem_of_getElem? (i := 1) rfl
  refine lv_aload_n hx hb dX11_byDraws_0 rfl (lv_at hl 0 rfl) ?_
  refine rg hf hk hw hinX11 0 rfl rfl 0 (by decide) w_0 rfl dX11_byDraws_1 ?_
  refine lv_bipush (v := 6) hx hb dX11_byDraws_4 (by decide) ?_
  refine rij hf hk hw 1 rfl (j := 6) (vp_in_nI (n := 6) (by omega) (by omega)) (rfl) dX11_byDraws_6 ?_
  refine lv_tope (y := nI cnt) (rfl) ?_
  refine lv_if_le (tgt := 54) hx hb dX11_byDraws_7 (by decide) (fun c_1 => ?_) (fun c_1 => ?_)
  · refine lv_aload_n hx hb dX11_byDraws_54 rfl (lv_at hl 0 rfl) ?_
    refine mcV hf hk hst hw (c_X11_step1 l g oh os ok ol ord odd otp olt orw oso osz oit oho ohe otr stp laws z cnt fogs arms kinds faiths places moved isk tpd oat obg otk ovl rmn tcd own_ opt dd (by omega) (by omega) (by assumption) (by assumption)) (cwV 0 hts gX11_byDraws_X11_step1 rfl rfl rfl hdV_X11_step1 ⟨Nat.le_of_ble_eq_true rfl, Nat.le_of_ble_eq_true rfl⟩) [0, 1, 2] rfl rfl 0 rfl rfl rfl hl.1 rfl (Nat.le_of_ble_eq_true rfl) dX11_byDraws_55 ⟨Nat.zero_le _, Nat.zero_le _⟩ (W' := [cob oh 11 [.ref os, .ref ok, .ref ol, .ref ord, .int isk, .ref odd, .ref otp, .int (nI tpd), .ref olt, .int oat, .int obg, .int otk, .int ovl, .ref orw, .int (nI rmn), .ref oso, .ref osz, .ref oit, .ref oho, .ref ohe, .ref otr, .int (nI tcd), .int own_, .int opt], cin g os 51 (mR (stp + 1) laws z cnt fogs arms kinds (goF laws fogs arms stp kinds faiths places cnt) (goP laws fogs arms stp kinds faiths places cnt) (goM laws fogs arms stp kinds places moved cnt)), cin g odd 8 (goE laws fogs arms stp kinds faiths places dd cnt)]) rfl (fun H locs hw => ?_)
    exact re_v hf hr hlk hw (by simp only [drF, drZ2, if_pos c_1]) dX11_byDraws_58
  · have h0 : 0 < cnt := Nat.pos_of_ne_zero (fun h => c_1 (by rw [h]; exact Int32.le_refl _))
    have hlt : drN z % cnt < cnt := Nat.mod_lt _ h0
    have hcz := c_1
    refine lv_aload_n hx hb dX11_byDraws_10 rfl (lv_at hl 0 rfl) ?_
    refine mcV hf hk hst hw (c_X11_draw l g oh os ok ol ord odd otp olt orw oso osz oit oho ohe otr stp laws z cnt fogs arms kinds faiths places moved isk tpd oat obg otk ovl rmn tcd own_ opt) (cwV 0 hts gX11_byDraws_X11_draw rfl rfl rfl hdV_X11_draw ⟨Nat.le_of_ble_eq_true rfl, Nat.le_of_ble_eq_true rfl⟩) [0, 1] rfl rfl 0 rfl rfl rfl hl.1 rfl (Nat.le_of_ble_eq_true rfl) dX11_byDraws_11 ⟨Nat.zero_le _, Nat.zero_le _⟩ (W' := [cob oh 11 [.ref os, .ref ok, .ref ol, .ref ord, .int isk, .ref odd, .ref otp, .int (nI tpd), .ref olt, .int oat, .int obg, .int otk, .int ovl, .ref orw, .int (nI rmn), .ref oso, .ref osz, .ref oit, .ref oho, .ref ohe, .ref otr, .int (nI tcd), .int own_, .int opt], cin g os 51 (mR stp laws (drZ z) cnt fogs arms kinds faiths places moved), cin g odd 8 dd]) rfl (fun H locs hw => ?_)
    refine lv_aload_n hx hb dX11_byDraws_14 rfl (lv_at hl 0 rfl) ?_
    refine rg hf hk hw hinX11 0 rfl rfl 0 (by decide) w_0 rfl dX11_byDraws_15 ?_
    refine lv_bipush (v := 6) hx hb dX11_byDraws_18 (by decide) ?_
    refine rij hf hk hw 1 rfl (j := 6) (vp_in_nI (n := 6) (by omega) (by omega)) (rfl) dX11_byDraws_20 ?_
    refine lv_tope (y := nI cnt) (rfl) ?_
    refine lv_irem hx hb dX11_byDraws_21 (fun h => hcz (by rw [h]; exact Int32.le_refl _)) ?_
    refine lv_tope (y := nI (drN z % cnt)) (drM z h0 (by omega)) ?_
    refine lv_istore_n (lv' := [(1, .int (nI (drN z % cnt))), (0, .ref oh)]) hx hb dX11_byDraws_22 rfl hl (by decide) rfl (fun ls hl => ?_)
    refine lv_aload_n hx hb dX11_byDraws_23 rfl (lv_at hl 1 rfl) ?_
    refine mcV hf hk hst hw (c_X11_draw l g oh os ok ol ord odd otp olt orw oso osz oit oho ohe otr stp laws (drZ z) cnt fogs arms kinds faiths places moved isk tpd oat obg otk ovl rmn tcd own_ opt) (cwV 0 hts gX11_byDraws_X11_draw rfl rfl rfl hdV_X11_draw ⟨Nat.le_of_ble_eq_true rfl, Nat.le_of_ble_eq_true rfl⟩) [0, 1] rfl rfl 0 rfl rfl rfl hl.1 rfl (Nat.le_of_ble_eq_true rfl) dX11_byDraws_24 ⟨Nat.zero_le _, Nat.zero_le _⟩ (W' := [cob oh 11 [.ref os, .ref ok, .ref ol, .ref ord, .int isk, .ref odd, .ref otp, .int (nI tpd), .ref olt, .int oat, .int obg, .int otk, .int ovl, .ref orw, .int (nI rmn), .ref oso, .ref osz, .ref oit, .ref oho, .ref ohe, .ref otr, .int (nI tcd), .int own_, .int opt], cin g os 51 (mR stp laws (drZ (drZ z)) cnt fogs arms kinds faiths places moved), cin g odd 8 dd]) rfl (fun H locs hw => ?_)
    refine lv_bipush (v := 100) hx hb dX11_byDraws_27 (by decide) ?_
    refine lv_irem hx hb dX11_byDraws_29 (by decide) ?_
    refine lv_tope (y := nI (drN (drZ z) % 100)) (drM (drZ z) (c := 100) (by decide) (by decide)) ?_
    refine lv_aload_n hx hb dX11_byDraws_30 rfl (lv_at hl 1 rfl) ?_
    refine rg hf hk hw hinX11 0 rfl rfl 0 (by decide) w_0 rfl dX11_byDraws_31 ?_
    refine lv_iconst (v := 4) hx hb dX11_byDraws_34 (by decide) ?_
    refine rij hf hk hw 1 rfl (j := 4) (vp_in_nI (n := 4) (by omega) (by omega)) (rfl) dX11_byDraws_35 ?_
    refine lv_tope (y := laws 3) (rfl) ?_
    refine lv_icmp_ge (tgt := 54) hx hb dX11_byDraws_36 (by decide) (fun c_2 => ?_) (fun c_2 => ?_)
    · refine lv_aload_n hx hb dX11_byDraws_54 rfl (lv_at hl 1 rfl) ?_
      refine mcV hf hk hst hw (c_X11_step1 l g oh os ok ol ord odd otp olt orw oso osz oit oho ohe otr stp laws (drZ (drZ z)) cnt fogs arms kinds faiths places moved isk tpd oat obg otk ovl rmn tcd own_ opt dd (by omega) (by omega) (by assumption) (by assumption)) (cwV 0 hts gX11_byDraws_X11_step1 rfl rfl rfl hdV_X11_step1 ⟨Nat.le_of_ble_eq_true rfl, Nat.le_of_ble_eq_true rfl⟩) [0, 1, 2] rfl rfl 0 rfl rfl rfl hl.1 rfl (Nat.le_of_ble_eq_true rfl) dX11_byDraws_55 ⟨Nat.zero_le _, Nat.zero_le _⟩ (W' := [cob oh 11 [.ref os, .ref ok, .ref ol, .ref ord, .int isk, .ref odd, .ref otp, .int (nI tpd), .ref olt, .int oat, .int obg, .int otk, .int ovl, .ref orw, .int (nI rmn), .ref oso, .ref osz, .ref oit, .ref oho, .ref ohe, .ref otr, .int (nI tcd), .int own_, .int opt], cin g os 51 (mR (stp + 1) laws (drZ (drZ z)) cnt fogs arms kinds (goF laws fogs arms stp kinds faiths places cnt) (goP laws fogs arms stp kinds faiths places cnt) (goM laws fogs arms stp kinds places moved cnt)), cin g odd 8 (goE laws fogs arms stp kinds faiths places dd cnt)]) rfl (fun H locs hw => ?_)
      exact re_v hf hr hlk hw (by simp only [drF, drZ2, if_neg c_1, if_pos c_2]) dX11_byDraws_58
    · refine lv_aload_n hx hb dX11_byDraws_39 rfl (lv_at hl 1 rfl) ?_
      refine lv_iload_n hx hb dX11_byDraws_40 rfl (lv_at hl 0 rfl) ?_
      refine lv_iconst (v := 1) hx hb dX11_byDraws_41 (by decide) ?_
      refine lv_bipush (v := 99) hx hb dX11_byDraws_42 (by decide) ?_
      refine lv_aload_n hx hb dX11_byDraws_44 rfl (lv_at hl 1 rfl) ?_
      refine lv_iload_n hx hb dX11_byDraws_45 rfl (lv_at hl 0 rfl) ?_
      refine lv_iconst (v := 1) hx hb dX11_byDraws_46 (by decide) ?_
      refine mcV hf hk hst hw (c_X11_get1 l g oh os ok ol ord odd otp olt orw oso osz oit oho ohe otr stp laws (drZ (drZ z)) cnt fogs arms kinds faiths places moved isk tpd oat obg otk ovl rmn tcd own_ opt (drN z % cnt) (by omega)) (cwV 2 hts gX11_byDraws_X11_get rfl rfl rfl hdV_X11_get ⟨Nat.le_of_ble_eq_true rfl, Nat.le_of_ble_eq_true rfl⟩) [0, 1] rfl rfl 0 rfl rfl rfl hl.1 rfl (Nat.le_of_ble_eq_true rfl) dX11_byDraws_47 ⟨Nat.zero_le _, Nat.zero_le _⟩ (W' := [cob oh 11 [.ref os, .ref ok, .ref ol, .ref ord, .int isk, .ref odd, .ref otp, .int (nI tpd), .ref olt, .int oat, .int obg, .int otk, .int ovl, .ref orw, .int (nI rmn), .ref oso, .ref osz, .ref oit, .ref oho, .ref ohe, .ref otr, .int (nI tcd), .int own_, .int opt], cin g os 51 (mR stp laws (drZ (drZ z)) cnt fogs arms kinds faiths places moved), cin g odd 8 dd]) rfl (fun H locs hw => ?_)
      refine lv_isub hx hb dX11_byDraws_50 ?_
      refine mcV hf hk hst hw (c_X11_puts1 l g oh os ok ol ord odd otp olt orw oso osz oit oho ohe otr stp laws (drZ (drZ z)) cnt fogs arms kinds faiths places moved isk tpd oat obg otk ovl rmn tcd own_ opt (drN z % cnt) (99 - (faiths (drN z % cnt))) (by omega)) (cwV 3 hts gX11_byDraws_X11_puts rfl rfl rfl hdV_X11_puts ⟨Nat.le_of_ble_eq_true rfl, Nat.le_of_ble_eq_true rfl⟩) [0, 1] rfl rfl 0 rfl rfl rfl hl.1 rfl (Nat.le_of_ble_eq_true rfl) dX11_byDraws_51 ⟨Nat.zero_le _, Nat.zero_le _⟩ (W' := [cob oh 11 [.ref os, .ref ok, .ref ol, .ref ord, .int isk, .ref odd, .ref otp, .int (nI tpd), .ref olt, .int oat, .int obg, .int otk, .int ovl, .ref orw, .int (nI rmn), .ref oso, .ref osz, .ref oit, .ref oho, .ref ohe, .ref otr, .int (nI tcd), .int own_, .int opt], cin g os 51 (mR stp laws (drZ (drZ z)) cnt fogs arms kinds (upd faiths (drN z % cnt) (99 - (faiths (drN z % cnt)))) places moved), cin g odd 8 dd]) rfl (fun H locs hw => ?_)
      refine lv_aload_n hx hb dX11_byDraws_54 rfl (lv_at hl 1 rfl) ?_
      refine mcV hf hk hst hw (c_X11_step1 l g oh os ok ol ord odd otp olt orw oso osz oit oho ohe otr stp laws (drZ (drZ z)) cnt fogs arms kinds (upd faiths (drN z % cnt) (99 - (faiths (drN z % cnt)))) places moved isk tpd oat obg otk ovl rmn tcd own_ opt dd (by omega) (by omega) (by assumption) (by assumption)) (cwV 0 hts gX11_byDraws_X11_step1 rfl rfl rfl hdV_X11_step1 ⟨Nat.le_of_ble_eq_true rfl, Nat.le_of_ble_eq_true rfl⟩) [0, 1, 2] rfl rfl 0 rfl rfl rfl hl.1 rfl (Nat.le_of_ble_eq_true rfl) dX11_byDraws_55 ⟨Nat.zero_le _, Nat.zero_le _⟩ (W' := [cob oh 11 [.ref os, .ref ok, .ref ol, .ref ord, .int isk, .ref odd, .ref otp, .int (nI tpd), .ref olt, .int oat, .int obg, .int otk, .int ovl, .ref orw, .int (nI rmn), .ref oso, .ref osz, .ref oit, .ref oho, .ref ohe, .ref otr, .int (nI tcd), .int own_, .int opt], cin g os 51 (mR (stp + 1) laws (drZ (drZ z)) cnt fogs arms kinds (goF laws fogs arms stp kinds (upd faiths (drN z % cnt) (99 - (faiths (drN z % cnt)))) places cnt) (goP laws fogs arms stp kinds (upd faiths (drN z % cnt) (99 - (faiths (drN z % cnt)))) places cnt) (goM laws fogs arms stp kinds places moved cnt)), cin g odd 8 (goE laws fogs arms stp kinds (upd faiths (drN z % cnt) (99 - (faiths (drN z % cnt)))) places dd cnt)]) rfl (fun H locs hw => ?_)
      exact re_v hf hr hlk hw (by simp only [drF, drZ2, if_neg c_1, if_neg c_2]) dX11_byDraws_58
theorem hdV_X11_byDraws : yX11_byDraws.cls = RX11 ∧ yX11_byDraws.cls ≠ "java/lang/invoke/MethodHandle" ∧ yX11_byDraws.cls ≠ "java/lang/invoke/VarHandle" ∧ (parseMethodDescriptor yX11_byDraws.desc).map (fun d => d.parameters.length) = some 0 := by decide +kernel
abbrev rmX11_step : Room := { frames := 7, cells := 0, slots := 0, locals := 153 }
set_option maxHeartbeats 4000000 in
set_option maxRecDepth 100000 in
theorem c_X11_step (l : Launch) (g : GG) (oh : Nat) (os : Nat) (ok : Nat) (ol : Nat) (ord : Nat) (odd : Nat) (otp : Nat) (olt : Nat) (orw : Nat) (oso : Nat) (osz : Nat) (oit : Nat) (oho : Nat) (ohe : Nat) (otr : Nat) (stp : Nat) (laws : Nat → Int32) (z : Int32) (cnt : Nat) (fogs : Nat → Int32) (arms : Nat → Int32) (kinds : Nat → Int32) (faiths : Nat → Int32) (places : Nat → Int32) (moved : Nat → Int32) (isk : Int32) (tpd : Nat) (oat : Int32) (obg : Int32) (otk : Int32) (ovl : Int32) (rmn : Nat) (tcd : Nat) (own_ : Int32) (opt : Int32) (dd : Nat → Int32) (hc8 : cnt ≤ 8) (hsp : stp < 2 ^ 29) (hpl : ∀ j, j < cnt → plOk (places j)) (hmo_ : ∀ j, j < cnt → moOk (moved j)) : mtR l g yX11_step wsX11_step rmX11_step [.ref oh] [cob oh 11 [.ref os, .ref ok, .ref ol, .ref ord, .int isk, .ref odd, .ref otp, .int (nI tpd), .ref olt, .int oat, .int obg, .int otk, .int ovl, .ref orw, .int (nI rmn), .ref oso, .ref osz, .ref oit, .ref oho, .ref ohe, .ref otr, .int (nI tcd), .int own_, .int opt], cin g os 51 (mR stp laws z cnt fogs arms kinds faiths places moved), cin g odd 8 dd] (fun rv W => rv = (some (.int (bcF (setTo (thrs (goP laws fogs arms stp kinds (drF laws faiths z cnt) places cnt)) cnt)))) ∧ ∃ (j0 : Nat → Int32), W = [cob oh 11 [.ref os, .ref ok, .ref ol, .ref ord, .int isk, .ref odd, .ref otp, .int (nI tpd), .ref olt, .int oat, .int obg, .int otk, .int ovl, .ref orw, .int (nI rmn), .ref oso, .ref osz, .ref oit, .ref oho, .ref ohe, .ref otr, .int (nI tcd), .int own_, .int opt], cin g os 51 (mR (stp + 1) laws (drZ2 z cnt) cnt fogs arms kinds (goF laws fogs arms stp kinds (drF laws faiths z cnt) places cnt) (goP laws fogs arms stp kinds (drF laws faiths z cnt) places cnt) (goM laws fogs arms stp kinds places moved cnt)), cin g odd 8 j0]) := by
  refine mtR.of (cc := cX11_step) (nL := 1) (ret := (some .int)) (own := RX11) (by decide +kernel) rfl rfl (Nat.le_of_ble_eq_true rfl) (fun p e s m below meth c hf hr hlk _ hk hst hw ls hl => ?_)
  have hx := hf.1
  have hb := hf.2.1
  have hts := hf.2.2.2.2
  have hl : lv_has ls 1 [(0, .ref oh)] := hl
  refine lv_aload_n hx hb dX11_step_0 rfl (lv_at hl 0 rfl) ?_
  refine mcV hf hk hst hw (c_X11_byDraws l g oh os ok ol ord odd otp olt orw oso osz oit oho ohe otr stp laws z cnt fogs arms kinds faiths places moved isk tpd oat obg otk ovl rmn tcd own_ opt dd (by omega) (by omega) (by assumption) (by assumption)) (cwV 0 hts gX11_step_X11_byDraws rfl rfl rfl hdV_X11_byDraws ⟨Nat.le_of_ble_eq_true rfl, Nat.le_of_ble_eq_true rfl⟩) [0, 1, 2] rfl rfl 0 rfl rfl rfl hl.1 rfl (Nat.le_of_ble_eq_true rfl) dX11_step_1 ⟨Nat.zero_le _, Nat.zero_le _⟩ (W' := [cob oh 11 [.ref os, .ref ok, .ref ol, .ref ord, .int isk, .ref odd, .ref otp, .int (nI tpd), .ref olt, .int oat, .int obg, .int otk, .int ovl, .ref orw, .int (nI rmn), .ref oso, .ref osz, .ref oit, .ref oho, .ref ohe, .ref otr, .int (nI tcd), .int own_, .int opt], cin g os 51 (mR (stp + 1) laws (drZ2 z cnt) cnt fogs arms kinds (goF laws fogs arms stp kinds (drF laws faiths z cnt) places cnt) (goP laws fogs arms stp kinds (drF laws faiths z cnt) places cnt) (goM laws fogs arms stp kinds places moved cnt)), cin g odd 8 (goE laws fogs arms stp kinds (drF laws faiths z cnt) places dd cnt)]) rfl (fun H locs hw => ?_)
  refine lv_aload_n hx hb dX11_step_4 rfl (lv_at hl 0 rfl) ?_
  refine lv_iconst (v := 1) hx hb dX11_step_5 (by decide) ?_
  refine mcV hf hk hst hw (c_X11_setOf1 l g oh os ok ol ord odd otp olt orw oso osz oit oho ohe otr (stp + 1) laws (drZ2 z cnt) cnt fogs arms kinds (goF laws fogs arms stp kinds (drF laws faiths z cnt) places cnt) (goP laws fogs arms stp kinds (drF laws faiths z cnt) places cnt) (goM laws fogs arms stp kinds places moved cnt) isk tpd oat obg otk ovl rmn tcd own_ opt (by omega) (goP_ok hpl)) (cwV 1 hts gX11_step_X11_setOf rfl rfl rfl hdV_X11_setOf ⟨Nat.le_of_ble_eq_true rfl, Nat.le_of_ble_eq_true rfl⟩) [0, 1] rfl rfl 0 rfl rfl rfl hl.1 rfl (Nat.le_of_ble_eq_true rfl) dX11_step_6 ⟨Nat.zero_le _, Nat.zero_le _⟩ (W' := [cob oh 11 [.ref os, .ref ok, .ref ol, .ref ord, .int isk, .ref odd, .ref otp, .int (nI tpd), .ref olt, .int oat, .int obg, .int otk, .int ovl, .ref orw, .int (nI rmn), .ref oso, .ref osz, .ref oit, .ref oho, .ref ohe, .ref otr, .int (nI tcd), .int own_, .int opt], cin g os 51 (mR (stp + 1) laws (drZ2 z cnt) cnt fogs arms kinds (goF laws fogs arms stp kinds (drF laws faiths z cnt) places cnt) (goP laws fogs arms stp kinds (drF laws faiths z cnt) places cnt) (goM laws fogs arms stp kinds places moved cnt)), cin g odd 8 (goE laws fogs arms stp kinds (drF laws faiths z cnt) places dd cnt)]) rfl (fun H locs hw => ?_)
  refine mcS hf hk hst hw (c_X11_ones l g (setTo (thrs (goP laws fogs arms stp kinds (drF laws faiths z cnt) places cnt)) cnt) (setTo_ix _ hc8)) (va_cwS 1 hts gX11_step_X11_ones rfl rfl rfl hdS_X11_ones ⟨Nat.le_of_ble_eq_true rfl, Nat.le_of_ble_eq_true rfl⟩) [] rfl rfl rfl hl.1 rfl (Nat.le_of_ble_eq_true rfl) dX11_step_9 ⟨Nat.zero_le _, Nat.zero_le _⟩ (W' := [cob oh 11 [.ref os, .ref ok, .ref ol, .ref ord, .int isk, .ref odd, .ref otp, .int (nI tpd), .ref olt, .int oat, .int obg, .int otk, .int ovl, .ref orw, .int (nI rmn), .ref oso, .ref osz, .ref oit, .ref oho, .ref ohe, .ref otr, .int (nI tcd), .int own_, .int opt], cin g os 51 (mR (stp + 1) laws (drZ2 z cnt) cnt fogs arms kinds (goF laws fogs arms stp kinds (drF laws faiths z cnt) places cnt) (goP laws fogs arms stp kinds (drF laws faiths z cnt) places cnt) (goM laws fogs arms stp kinds places moved cnt)), cin g odd 8 (goE laws fogs arms stp kinds (drF laws faiths z cnt) places dd cnt)]) rfl (fun H locs hw => ?_)
  exact rE_i hf hr hlk hw ⟨rfl, _, rfl⟩ (show ([oh, os, odd] : List Nat) = [oh, os, odd] from rfl) dX11_step_12
theorem hdV_X11_sumOf : yX11_sumOf.cls = RX11 ∧ yX11_sumOf.cls ≠ "java/lang/invoke/MethodHandle" ∧ yX11_sumOf.cls ≠ "java/lang/invoke/VarHandle" ∧ (parseMethodDescriptor yX11_sumOf.desc).map (fun d => d.parameters.length) = some 1 := by decide +kernel
def f_X11_state (stp : Nat) (laws : Nat → Int32) (cnt : Nat) (fogs : Nat → Int32) (arms : Nat → Int32) (kinds : Nat → Int32) (faiths : Nat → Int32) (places : Nat → Int32) (what : Int32) : Int32 := if what = 0 then (nI stp) else (if what = 1 then (setTo (thrs places) cnt) else (if what = 2 then (setTo (snows laws fogs arms stp kinds places) cnt) else (if what = 3 then (sumTo faiths cnt) else (if what = 4 then (sumTo places cnt) else (if what = 5 then (if (laws 1) ≤ (laws 2) then 0 else 1) else (-1))))))
abbrev rmX11_state : Room := { frames := 4, cells := 0, slots := 0, locals := 89 }
set_option maxHeartbeats 4000000 in
set_option maxRecDepth 100000 in
theorem c_X11_state (l : Launch) (g : GG) (oh : Nat) (os : Nat) (ok : Nat) (ol : Nat) (ord : Nat) (odd : Nat) (otp : Nat) (olt : Nat) (orw : Nat) (oso : Nat) (osz : Nat) (oit : Nat) (oho : Nat) (ohe : Nat) (otr : Nat) (stp : Nat) (laws : Nat → Int32) (z : Int32) (cnt : Nat) (fogs : Nat → Int32) (arms : Nat → Int32) (kinds : Nat → Int32) (faiths : Nat → Int32) (places : Nat → Int32) (moved : Nat → Int32) (isk : Int32) (tpd : Nat) (oat : Int32) (obg : Int32) (otk : Int32) (ovl : Int32) (rmn : Nat) (tcd : Nat) (own_ : Int32) (opt : Int32) (what : Int32) (hc8 : cnt ≤ 8) (hsp : stp < 2 ^ 29) (hpl : ∀ j, j < cnt → plOk (places j)) (hmo_ : ∀ j, j < cnt → moOk (moved j)) : mtR l g yX11_state wsX11_state rmX11_state [.ref oh, .int what] [cob oh 11 [.ref os, .ref ok, .ref ol, .ref ord, .int isk, .ref odd, .ref otp, .int (nI tpd), .ref olt, .int oat, .int obg, .int otk, .int ovl, .ref orw, .int (nI rmn), .ref oso, .ref osz, .ref oit, .ref oho, .ref ohe, .ref otr, .int (nI tcd), .int own_, .int opt], cin g os 51 (mR stp laws z cnt fogs arms kinds faiths places moved)] (fun rv W => rv = (some (.int (f_X11_state stp laws cnt fogs arms kinds faiths places what))) ∧ W = [cob oh 11 [.ref os, .ref ok, .ref ol, .ref ord, .int isk, .ref odd, .ref otp, .int (nI tpd), .ref olt, .int oat, .int obg, .int otk, .int ovl, .ref orw, .int (nI rmn), .ref oso, .ref osz, .ref oit, .ref oho, .ref ohe, .ref otr, .int (nI tcd), .int own_, .int opt], cin g os 51 (mR stp laws z cnt fogs arms kinds faiths places moved)]) := by
  refine mtR.of (cc := cX11_state) (nL := 2) (ret := (some .int)) (own := RX11) (by decide +kernel) rfl rfl (Nat.le_of_ble_eq_true rfl) (fun p e s m below meth c hf hr hlk _ hk hst hw ls hl => ?_)
  have hx := hf.1
  have hb := hf.2.1
  have hts := hf.2.2.2.2
  have hl : lv_has ls 2 [(0, .ref oh), (1, .int what)] := hl
  have hinX11 : ∀ w ∈ u_ws RX11 TX11 24, w ∈ wsX11_state := fun w h => List.mem_cons_of_mem _ (List.mem_append_right _ h)
  have w_0 : Cond.fieldLink RX11 9 "LightManModel" "s" "[I" ∈ wsX11_state := List.mem_of_getElem? (i := 1) rfl
  refine lv_iload_n hx hb dX11_state_0 rfl (lv_at hl 1 rfl) ?_
  by_cases c_2 : what = 0
  · refine lv_tableIn (off := 39) (tgt := 40) hx hb dX11_state_1 (by rw [c_2]; decide) (by rw [c_2]; decide) (by rw [c_2]; rfl) (by decide) ?_
    refine lv_aload_n hx hb dX11_state_40 rfl (lv_at hl 0 rfl) ?_
    refine rg hf hk hw hinX11 0 rfl rfl 0 (by decide) w_0 rfl dX11_state_41 ?_
    refine lv_iconst (v := 0) hx hb dX11_state_44 (by decide) ?_
    refine rij hf hk hw 1 rfl (j := 0) (vp_in_nI (n := 0) (by omega) (by omega)) (rfl) dX11_state_45 ?_
    refine lv_tope (y := nI stp) (rfl) ?_
    exact rE_i hf hr hlk hw ⟨congrArg some (by simp only [f_X11_state, if_pos c_2]), rfl⟩ (show ([oh, os] : List Nat) = [oh, os] from rfl) dX11_state_46
  by_cases c_3 : what = 1
  · refine lv_tableIn (off := 46) (tgt := 47) hx hb dX11_state_1 (by rw [c_3]; decide) (by rw [c_3]; decide) (by rw [c_3]; rfl) (by decide) ?_
    refine lv_aload_n hx hb dX11_state_47 rfl (lv_at hl 0 rfl) ?_
    refine lv_iload_n hx hb dX11_state_48 rfl (lv_at hl 1 rfl) ?_
    refine lv_tope (y := 1) (c_3) ?_
    refine mcV hf hk hst hw (c_X11_setOf1 l g oh os ok ol ord odd otp olt orw oso osz oit oho ohe otr stp laws z cnt fogs arms kinds faiths places moved isk tpd oat obg otk ovl rmn tcd own_ opt (by omega) (by assumption)) (cwV 1 hts gX11_state_X11_setOf rfl rfl rfl hdV_X11_setOf ⟨Nat.le_of_ble_eq_true rfl, Nat.le_of_ble_eq_true rfl⟩) [0, 1] rfl rfl 0 rfl rfl rfl hl.1 rfl (Nat.le_of_ble_eq_true rfl) dX11_state_49 ⟨Nat.zero_le _, Nat.zero_le _⟩ (W' := [cob oh 11 [.ref os, .ref ok, .ref ol, .ref ord, .int isk, .ref odd, .ref otp, .int (nI tpd), .ref olt, .int oat, .int obg, .int otk, .int ovl, .ref orw, .int (nI rmn), .ref oso, .ref osz, .ref oit, .ref oho, .ref ohe, .ref otr, .int (nI tcd), .int own_, .int opt], cin g os 51 (mR stp laws z cnt fogs arms kinds faiths places moved)]) rfl (fun H locs hw => ?_)
    exact rE_i hf hr hlk hw ⟨congrArg some (by simp only [f_X11_state, if_neg c_2, if_pos c_3]), rfl⟩ (show ([oh, os] : List Nat) = [oh, os] from rfl) dX11_state_52
  by_cases c_4 : what = 2
  · refine lv_tableIn (off := 46) (tgt := 47) hx hb dX11_state_1 (by rw [c_4]; decide) (by rw [c_4]; decide) (by rw [c_4]; rfl) (by decide) ?_
    refine lv_aload_n hx hb dX11_state_47 rfl (lv_at hl 0 rfl) ?_
    refine lv_iload_n hx hb dX11_state_48 rfl (lv_at hl 1 rfl) ?_
    refine lv_tope (y := 2) (c_4) ?_
    refine mcV hf hk hst hw (c_X11_setOf2 l g oh os ok ol ord odd otp olt orw oso osz oit oho ohe otr stp laws z cnt fogs arms kinds faiths places moved isk tpd oat obg otk ovl rmn tcd own_ opt (by omega) (by omega) (by assumption)) (cwV 1 hts gX11_state_X11_setOf rfl rfl rfl hdV_X11_setOf ⟨Nat.le_of_ble_eq_true rfl, Nat.le_of_ble_eq_true rfl⟩) [0, 1] rfl rfl 0 rfl rfl rfl hl.1 rfl (Nat.le_of_ble_eq_true rfl) dX11_state_49 ⟨Nat.zero_le _, Nat.zero_le _⟩ (W' := [cob oh 11 [.ref os, .ref ok, .ref ol, .ref ord, .int isk, .ref odd, .ref otp, .int (nI tpd), .ref olt, .int oat, .int obg, .int otk, .int ovl, .ref orw, .int (nI rmn), .ref oso, .ref osz, .ref oit, .ref oho, .ref ohe, .ref otr, .int (nI tcd), .int own_, .int opt], cin g os 51 (mR stp laws z cnt fogs arms kinds faiths places moved)]) rfl (fun H locs hw => ?_)
    exact rE_i hf hr hlk hw ⟨congrArg some (by simp only [f_X11_state, if_neg c_2, if_neg c_3, if_pos c_4]), rfl⟩ (show ([oh, os] : List Nat) = [oh, os] from rfl) dX11_state_52
  by_cases c_5 : what = 3
  · refine lv_tableIn (off := 52) (tgt := 53) hx hb dX11_state_1 (by rw [c_5]; decide) (by rw [c_5]; decide) (by rw [c_5]; rfl) (by decide) ?_
    refine lv_aload_n hx hb dX11_state_53 rfl (lv_at hl 0 rfl) ?_
    refine lv_iconst (v := 1) hx hb dX11_state_54 (by decide) ?_
    refine mcV hf hk hst hw (c_X11_sumOf1 l g oh os ok ol ord odd otp olt orw oso osz oit oho ohe otr stp laws z cnt fogs arms kinds faiths places moved isk tpd oat obg otk ovl rmn tcd own_ opt (by omega)) (cwV 1 hts gX11_state_X11_sumOf rfl rfl rfl hdV_X11_sumOf ⟨Nat.le_of_ble_eq_true rfl, Nat.le_of_ble_eq_true rfl⟩) [0, 1] rfl rfl 0 rfl rfl rfl hl.1 rfl (Nat.le_of_ble_eq_true rfl) dX11_state_55 ⟨Nat.zero_le _, Nat.zero_le _⟩ (W' := [cob oh 11 [.ref os, .ref ok, .ref ol, .ref ord, .int isk, .ref odd, .ref otp, .int (nI tpd), .ref olt, .int oat, .int obg, .int otk, .int ovl, .ref orw, .int (nI rmn), .ref oso, .ref osz, .ref oit, .ref oho, .ref ohe, .ref otr, .int (nI tcd), .int own_, .int opt], cin g os 51 (mR stp laws z cnt fogs arms kinds faiths places moved)]) rfl (fun H locs hw => ?_)
    exact rE_i hf hr hlk hw ⟨congrArg some (by simp only [f_X11_state, if_neg c_2, if_neg c_3, if_neg c_4, if_pos c_5]), rfl⟩ (show ([oh, os] : List Nat) = [oh, os] from rfl) dX11_state_58
  by_cases c_6 : what = 4
  · refine lv_tableIn (off := 58) (tgt := 59) hx hb dX11_state_1 (by rw [c_6]; decide) (by rw [c_6]; decide) (by rw [c_6]; rfl) (by decide) ?_
    refine lv_aload_n hx hb dX11_state_59 rfl (lv_at hl 0 rfl) ?_
    refine lv_iconst (v := 2) hx hb dX11_state_60 (by decide) ?_
    refine mcV hf hk hst hw (c_X11_sumOf2 l g oh os ok ol ord odd otp olt orw oso osz oit oho ohe otr stp laws z cnt fogs arms kinds faiths places moved isk tpd oat obg otk ovl rmn tcd own_ opt (by omega)) (cwV 1 hts gX11_state_X11_sumOf rfl rfl rfl hdV_X11_sumOf ⟨Nat.le_of_ble_eq_true rfl, Nat.le_of_ble_eq_true rfl⟩) [0, 1] rfl rfl 0 rfl rfl rfl hl.1 rfl (Nat.le_of_ble_eq_true rfl) dX11_state_61 ⟨Nat.zero_le _, Nat.zero_le _⟩ (W' := [cob oh 11 [.ref os, .ref ok, .ref ol, .ref ord, .int isk, .ref odd, .ref otp, .int (nI tpd), .ref olt, .int oat, .int obg, .int otk, .int ovl, .ref orw, .int (nI rmn), .ref oso, .ref osz, .ref oit, .ref oho, .ref ohe, .ref otr, .int (nI tcd), .int own_, .int opt], cin g os 51 (mR stp laws z cnt fogs arms kinds faiths places moved)]) rfl (fun H locs hw => ?_)
    exact rE_i hf hr hlk hw ⟨congrArg some (by simp only [f_X11_state, if_neg c_2, if_neg c_3, if_neg c_4, if_neg c_5, if_pos c_6]), rfl⟩ (show ([oh, os] : List Nat) = [oh, os] from rfl) dX11_state_64
  by_cases c_7 : what = 5
  · refine lv_tableIn (off := 64) (tgt := 65) hx hb dX11_state_1 (by rw [c_7]; decide) (by rw [c_7]; decide) (by rw [c_7]; rfl) (by decide) ?_
    refine lv_aload_n hx hb dX11_state_65 rfl (lv_at hl 0 rfl) ?_
    refine rg hf hk hw hinX11 0 rfl rfl 0 (by decide) w_0 rfl dX11_state_66 ?_
    refine lv_iconst (v := 3) hx hb dX11_state_69 (by decide) ?_
    refine rij hf hk hw 1 rfl (j := 3) (vp_in_nI (n := 3) (by omega) (by omega)) (rfl) dX11_state_70 ?_
    refine lv_tope (y := laws 2) (rfl) ?_
    refine lv_aload_n hx hb dX11_state_71 rfl (lv_at hl 0 rfl) ?_
    refine rg hf hk hw hinX11 0 rfl rfl 0 (by decide) w_0 rfl dX11_state_72 ?_
    refine lv_iconst (v := 2) hx hb dX11_state_75 (by decide) ?_
    refine rij hf hk hw 1 rfl (j := 2) (vp_in_nI (n := 2) (by omega) (by omega)) (rfl) dX11_state_76 ?_
    refine lv_tope (y := laws 1) (rfl) ?_
    refine lv_icmp_ge (tgt := 84) hx hb dX11_state_77 (by decide) (fun c_8 => ?_) (fun c_8 => ?_)
    · refine lv_iconst (v := 0) hx hb dX11_state_84 (by decide) ?_
      exact rE_i hf hr hlk hw ⟨congrArg some (by simp only [f_X11_state, if_neg c_2, if_neg c_3, if_neg c_4, if_neg c_5, if_neg c_6, if_pos c_7, if_pos c_8]), rfl⟩ (show ([oh, os] : List Nat) = [oh, os] from rfl) dX11_state_85
    · refine lv_iconst (v := 1) hx hb dX11_state_80 (by decide) ?_
      refine lv_goto (tgt := 85) hx hb dX11_state_81 (by decide) ?_
      exact rE_i hf hr hlk hw ⟨congrArg some (by simp only [f_X11_state, if_neg c_2, if_neg c_3, if_neg c_4, if_neg c_5, if_neg c_6, if_pos c_7, if_neg c_8]), rfl⟩ (show ([oh, os] : List Nat) = [oh, os] from rfl) dX11_state_85
  refine lv_tableOut (tgt := 86) hx hb dX11_state_1 (sw_o2 0 5 [0, 1, 2, 3, 4, 5] (by decide) (by decide) (by simp only [List.mem_cons, List.not_mem_nil, or_false, not_or]; exact ⟨c_2, c_3, c_4, c_5, c_6, c_7⟩)) (by decide) ?_
  refine lv_iconst (v := (-1)) hx hb dX11_state_86 (by decide) ?_
  exact rE_i hf hr hlk hw ⟨congrArg some (by simp only [f_X11_state, if_neg c_2, if_neg c_3, if_neg c_4, if_neg c_5, if_neg c_6, if_neg c_7]), rfl⟩ (show ([oh, os] : List Nat) = [oh, os] from rfl) dX11_state_87
def f_X11_many (stp : Nat) (laws : Nat → Int32) (cnt : Nat) (fogs : Nat → Int32) (arms : Nat → Int32) (kinds : Nat → Int32) (places : Nat → Int32) (moved : Nat → Int32) (tpd : Nat) (rmn : Nat) (tcd : Nat) (what : Int32) : Int32 := if what = 0 then (nI cnt) else (if what = 1 then (bcF (setTo (thrs places) cnt)) else (if what = 2 then (bcF (setTo (snows laws fogs arms stp kinds places) cnt)) else (if what = 3 then (posTo moved cnt) else (if what = 4 then (nI rmn) else (if what = 5 then (nI tpd) else (if what = 6 then (nI tcd) else (-1)))))))
abbrev rmX11_many : Room := { frames := 4, cells := 0, slots := 0, locals := 89 }
set_option maxHeartbeats 4000000 in
set_option maxRecDepth 100000 in
theorem c_X11_many (l : Launch) (g : GG) (oh : Nat) (os : Nat) (ok : Nat) (ol : Nat) (ord : Nat) (odd : Nat) (otp : Nat) (olt : Nat) (orw : Nat) (oso : Nat) (osz : Nat) (oit : Nat) (oho : Nat) (ohe : Nat) (otr : Nat) (stp : Nat) (laws : Nat → Int32) (z : Int32) (cnt : Nat) (fogs : Nat → Int32) (arms : Nat → Int32) (kinds : Nat → Int32) (faiths : Nat → Int32) (places : Nat → Int32) (moved : Nat → Int32) (isk : Int32) (tpd : Nat) (oat : Int32) (obg : Int32) (otk : Int32) (ovl : Int32) (rmn : Nat) (tcd : Nat) (own_ : Int32) (opt : Int32) (what : Int32) (hc8 : cnt ≤ 8) (hsp : stp < 2 ^ 29) (hpl : ∀ j, j < cnt → plOk (places j)) (hmo_ : ∀ j, j < cnt → moOk (moved j)) : mtR l g yX11_many wsX11_many rmX11_many [.ref oh, .int what] [cob oh 11 [.ref os, .ref ok, .ref ol, .ref ord, .int isk, .ref odd, .ref otp, .int (nI tpd), .ref olt, .int oat, .int obg, .int otk, .int ovl, .ref orw, .int (nI rmn), .ref oso, .ref osz, .ref oit, .ref oho, .ref ohe, .ref otr, .int (nI tcd), .int own_, .int opt], cin g os 51 (mR stp laws z cnt fogs arms kinds faiths places moved)] (fun rv W => rv = (some (.int (f_X11_many stp laws cnt fogs arms kinds places moved tpd rmn tcd what))) ∧ W = [cob oh 11 [.ref os, .ref ok, .ref ol, .ref ord, .int isk, .ref odd, .ref otp, .int (nI tpd), .ref olt, .int oat, .int obg, .int otk, .int ovl, .ref orw, .int (nI rmn), .ref oso, .ref osz, .ref oit, .ref oho, .ref ohe, .ref otr, .int (nI tcd), .int own_, .int opt], cin g os 51 (mR stp laws z cnt fogs arms kinds faiths places moved)]) := by
  refine mtR.of (cc := cX11_many) (nL := 4) (ret := (some .int)) (own := RX11) (by decide +kernel) rfl rfl (Nat.le_of_ble_eq_true rfl) (fun p e s m below meth c hf hr hlk _ hk hst hw ls hl => ?_)
  have hx := hf.1
  have hb := hf.2.1
  have hts := hf.2.2.2.2
  have hl : lv_has ls 4 [(0, .ref oh), (1, .int what)] := hl
  have hinX11 : ∀ w ∈ u_ws RX11 TX11 24, w ∈ wsX11_many := fun w h => List.mem_cons_of_mem _ (List.mem_append_right _ h)
  have w_0 : Cond.fieldLink RX11 9 "LightManModel" "s" "[I" ∈ wsX11_many := List.mem_of_getElem? (i := 1) rfl
  have w_1 : Cond.fieldLink RX11 162 "LightManModel" "rowMany" "I" ∈ wsX11_many := List.mem_of_getElem? (i := 2) rfl
  have w_2 : Cond.fieldLink RX11 106 "LightManModel" "taped" "I" ∈ wsX11_many := List.mem_of_getElem? (i := 3) rfl
  have w_3 : Cond.fieldLink RX11 235 "LightManModel" "traced" "I" ∈ wsX11_many := List.mem_of_getElem? (i := 4) rfl
  refine lv_iconst (v := 0) hx hb dX11_many_0 (by decide) ?_
  refine lv_istore_n (lv' := [(2, .int 0), (0, .ref oh), (1, .int what)]) hx hb dX11_many_1 rfl hl (by decide) rfl (fun ls hl => ?_)
  refine lv_iload_n hx hb dX11_many_2 rfl (lv_at hl 2 rfl) ?_
  by_cases c_2 : what = 0
  · refine lv_tableIn (off := 41) (tgt := 44) hx hb dX11_many_3 (by rw [c_2]; decide) (by rw [c_2]; decide) (by rw [c_2]; rfl) (by decide) ?_
    refine lv_aload_n hx hb dX11_many_44 rfl (lv_at hl 1 rfl) ?_
    refine rg hf hk hw hinX11 0 rfl rfl 0 (by decide) w_0 rfl dX11_many_45 ?_
    refine lv_bipush (v := 6) hx hb dX11_many_48 (by decide) ?_
    refine rij hf hk hw 1 rfl (j := 6) (vp_in_nI (n := 6) (by omega) (by omega)) (rfl) dX11_many_50 ?_
    refine lv_tope (y := nI cnt) (rfl) ?_
    exact rE_i hf hr hlk hw ⟨congrArg some (by simp only [f_X11_many, if_pos c_2]), rfl⟩ (show ([oh, os] : List Nat) = [oh, os] from rfl) dX11_many_51
  by_cases c_3 : what = 1
  · refine lv_tableIn (off := 49) (tgt := 52) hx hb dX11_many_3 (by rw [c_3]; decide) (by rw [c_3]; decide) (by rw [c_3]; rfl) (by decide) ?_
    refine lv_aload_n hx hb dX11_many_52 rfl (lv_at hl 1 rfl) ?_
    refine lv_iload_n hx hb dX11_many_53 rfl (lv_at hl 2 rfl) ?_
    refine lv_tope (y := 1) (c_3) ?_
    refine mcV hf hk hst hw (c_X11_setOf1 l g oh os ok ol ord odd otp olt orw oso osz oit oho ohe otr stp laws z cnt fogs arms kinds faiths places moved isk tpd oat obg otk ovl rmn tcd own_ opt (by omega) (by assumption)) (cwV 1 hts gX11_many_X11_setOf rfl rfl rfl hdV_X11_setOf ⟨Nat.le_of_ble_eq_true rfl, Nat.le_of_ble_eq_true rfl⟩) [0, 1] rfl rfl 0 rfl rfl rfl hl.1 rfl (Nat.le_of_ble_eq_true rfl) dX11_many_54 ⟨Nat.zero_le _, Nat.zero_le _⟩ (W' := [cob oh 11 [.ref os, .ref ok, .ref ol, .ref ord, .int isk, .ref odd, .ref otp, .int (nI tpd), .ref olt, .int oat, .int obg, .int otk, .int ovl, .ref orw, .int (nI rmn), .ref oso, .ref osz, .ref oit, .ref oho, .ref ohe, .ref otr, .int (nI tcd), .int own_, .int opt], cin g os 51 (mR stp laws z cnt fogs arms kinds faiths places moved)]) rfl (fun H locs hw => ?_)
    refine mcS hf hk hst hw (c_X11_ones l g (setTo (thrs places) cnt) (setTo_ix _ hc8)) (va_cwS 1 hts gX11_many_X11_ones rfl rfl rfl hdS_X11_ones ⟨Nat.le_of_ble_eq_true rfl, Nat.le_of_ble_eq_true rfl⟩) [] rfl rfl rfl hl.1 rfl (Nat.le_of_ble_eq_true rfl) dX11_many_57 ⟨Nat.zero_le _, Nat.zero_le _⟩ (W' := [cob oh 11 [.ref os, .ref ok, .ref ol, .ref ord, .int isk, .ref odd, .ref otp, .int (nI tpd), .ref olt, .int oat, .int obg, .int otk, .int ovl, .ref orw, .int (nI rmn), .ref oso, .ref osz, .ref oit, .ref oho, .ref ohe, .ref otr, .int (nI tcd), .int own_, .int opt], cin g os 51 (mR stp laws z cnt fogs arms kinds faiths places moved)]) rfl (fun H locs hw => ?_)
    exact rE_i hf hr hlk hw ⟨congrArg some (by simp only [f_X11_many, if_neg c_2, if_pos c_3]), rfl⟩ (show ([oh, os] : List Nat) = [oh, os] from rfl) dX11_many_60
  by_cases c_4 : what = 2
  · refine lv_tableIn (off := 49) (tgt := 52) hx hb dX11_many_3 (by rw [c_4]; decide) (by rw [c_4]; decide) (by rw [c_4]; rfl) (by decide) ?_
    refine lv_aload_n hx hb dX11_many_52 rfl (lv_at hl 1 rfl) ?_
    refine lv_iload_n hx hb dX11_many_53 rfl (lv_at hl 2 rfl) ?_
    refine lv_tope (y := 2) (c_4) ?_
    refine mcV hf hk hst hw (c_X11_setOf2 l g oh os ok ol ord odd otp olt orw oso osz oit oho ohe otr stp laws z cnt fogs arms kinds faiths places moved isk tpd oat obg otk ovl rmn tcd own_ opt (by omega) (by omega) (by assumption)) (cwV 1 hts gX11_many_X11_setOf rfl rfl rfl hdV_X11_setOf ⟨Nat.le_of_ble_eq_true rfl, Nat.le_of_ble_eq_true rfl⟩) [0, 1] rfl rfl 0 rfl rfl rfl hl.1 rfl (Nat.le_of_ble_eq_true rfl) dX11_many_54 ⟨Nat.zero_le _, Nat.zero_le _⟩ (W' := [cob oh 11 [.ref os, .ref ok, .ref ol, .ref ord, .int isk, .ref odd, .ref otp, .int (nI tpd), .ref olt, .int oat, .int obg, .int otk, .int ovl, .ref orw, .int (nI rmn), .ref oso, .ref osz, .ref oit, .ref oho, .ref ohe, .ref otr, .int (nI tcd), .int own_, .int opt], cin g os 51 (mR stp laws z cnt fogs arms kinds faiths places moved)]) rfl (fun H locs hw => ?_)
    refine mcS hf hk hst hw (c_X11_ones l g (setTo (snows laws fogs arms stp kinds places) cnt) (setTo_ix _ hc8)) (va_cwS 1 hts gX11_many_X11_ones rfl rfl rfl hdS_X11_ones ⟨Nat.le_of_ble_eq_true rfl, Nat.le_of_ble_eq_true rfl⟩) [] rfl rfl rfl hl.1 rfl (Nat.le_of_ble_eq_true rfl) dX11_many_57 ⟨Nat.zero_le _, Nat.zero_le _⟩ (W' := [cob oh 11 [.ref os, .ref ok, .ref ol, .ref ord, .int isk, .ref odd, .ref otp, .int (nI tpd), .ref olt, .int oat, .int obg, .int otk, .int ovl, .ref orw, .int (nI rmn), .ref oso, .ref osz, .ref oit, .ref oho, .ref ohe, .ref otr, .int (nI tcd), .int own_, .int opt], cin g os 51 (mR stp laws z cnt fogs arms kinds faiths places moved)]) rfl (fun H locs hw => ?_)
    exact rE_i hf hr hlk hw ⟨congrArg some (by simp only [f_X11_many, if_neg c_2, if_neg c_3, if_pos c_4]), rfl⟩ (show ([oh, os] : List Nat) = [oh, os] from rfl) dX11_many_60
  by_cases c_5 : what = 3
  · refine lv_tableIn (off := 58) (tgt := 61) hx hb dX11_many_3 (by rw [c_5]; decide) (by rw [c_5]; decide) (by rw [c_5]; rfl) (by decide) ?_
    refine lv_iconst (v := 0) hx hb dX11_many_61 (by decide) ?_
    refine lv_istore_n (lv' := [(3, .int 0), (2, .int 0), (0, .ref oh), (1, .int what)]) hx hb dX11_many_62 rfl hl (by decide) rfl (fun ls hl => ?_)
    have lp_63_5 : ∀ (fu k : Nat), k ≤ cnt → cnt + 1 ≤ k + fu → ∀ (H : Heap) (locs : List Loc), hv g (va_I [cob oh 11 [.ref os, .ref ok, .ref ol, .ref ord, .int isk, .ref odd, .ref otp, .int (nI tpd), .ref olt, .int oat, .int obg, .int otk, .int ovl, .ref orw, .int (nI rmn), .ref oso, .ref osz, .ref oit, .ref oho, .ref ohe, .ref otr, .int (nI tcd), .int own_, .int opt], cin g os 51 (mR stp laws z cnt fogs arms kinds faiths places moved)]) s H locs [cob oh 11 [.ref os, .ref ok, .ref ol, .ref ord, .int isk, .ref odd, .ref otp, .int (nI tpd), .ref olt, .int oat, .int obg, .int otk, .int ovl, .ref orw, .int (nI rmn), .ref oso, .ref osz, .ref oit, .ref oho, .ref ohe, .ref otr, .int (nI tcd), .int own_, .int opt], cin g os 51 (mR stp laws z cnt fogs arms kinds faiths places moved)] → ∀ ls : Array Slot, lv_has ls 4 [(3, .int (nI k)), (2, .int (posTo moved k)), (0, .ref oh), (1, .int what)] → W p l e rmX11_many s m ([.ref oh, .int what] : List Value).toArray below meth c H locs 0 0 (MQ below (mtS g [cob oh 11 [.ref os, .ref ok, .ref ol, .ref ord, .int isk, .ref odd, .ref otp, .int (nI tpd), .ref olt, .int oat, .int obg, .int otk, .int ovl, .ref orw, .int (nI rmn), .ref oso, .ref osz, .ref oit, .ref oho, .ref ohe, .ref otr, .int (nI tcd), .int own_, .int opt], cin g os 51 (mR stp laws z cnt fogs arms kinds faiths places moved)] (fun rv W => rv = (some (.int (f_X11_many stp laws cnt fogs arms kinds places moved tpd rmn tcd what))) ∧ W = [cob oh 11 [.ref os, .ref ok, .ref ol, .ref ord, .int isk, .ref odd, .ref otp, .int (nI tpd), .ref olt, .int oat, .int obg, .int otk, .int ovl, .ref orw, .int (nI rmn), .ref oso, .ref osz, .ref oit, .ref oho, .ref ohe, .ref otr, .int (nI tcd), .int own_, .int opt], cin g os 51 (mR stp laws z cnt fogs arms kinds faiths places moved)])) ([.ref oh, .int what] : List Value).toArray s 0 0 (va_I [cob oh 11 [.ref os, .ref ok, .ref ol, .ref ord, .int isk, .ref odd, .ref otp, .int (nI tpd), .ref olt, .int oat, .int obg, .int otk, .int ovl, .ref orw, .int (nI rmn), .ref oso, .ref osz, .ref oit, .ref oho, .ref ohe, .ref otr, .int (nI tcd), .int own_, .int opt], cin g os 51 (mR stp laws z cnt fogs arms kinds faiths places moved)])) (F0 m 63 ls []) := by
      intro fu
      induction fu with
      | zero =>
        intro k h1 h2
        exact absurd h2 (by omega)
      | succ fu ih_63 =>
        intro k hk1_63 hk2_63 H locs hw ls hl
        refine lv_iload_n hx hb dX11_many_63 rfl (lv_at hl 0 rfl) ?_
        refine lv_aload_n hx hb dX11_many_64 rfl (lv_at hl 2 rfl) ?_
        refine rg hf hk hw hinX11 0 rfl rfl 0 (by decide) w_0 rfl dX11_many_65 ?_
        refine lv_bipush (v := 6) hx hb dX11_many_68 (by decide) ?_
        refine rij hf hk hw 1 rfl (j := 6) (vp_in_nI (n := 6) (by omega) (by omega)) (rfl) dX11_many_70 ?_
        refine lv_tope (y := nI cnt) (rfl) ?_
        refine lv_icmp_ge (tgt := 97) hx hb dX11_many_71 (by decide) (fun c_7 => ?_) (fun c_7 => ?_)
        · have hkE : k = cnt := Nat.le_antisymm hk1_63 ((nI_leI (by omega) (by omega)).mp c_7)
          subst hkE
          refine lv_iload_n hx hb dX11_many_97 rfl (lv_at hl 1 rfl) ?_
          exact rE_i hf hr hlk hw ⟨congrArg some (by simp only [f_X11_many, if_neg c_2, if_neg c_3, if_neg c_4, if_pos c_5, if_pos c_7]), rfl⟩ (show ([oh, os] : List Nat) = [oh, os] from rfl) dX11_many_98
        · have hkE : k < cnt := Nat.not_le.mp (fun h => c_7 ((nI_leI (by omega) (by omega)).mpr h))
          refine lv_iload_n hx hb dX11_many_74 rfl (lv_at hl 1 rfl) ?_
          refine lv_aload_n hx hb dX11_many_75 rfl (lv_at hl 2 rfl) ?_
          refine lv_iload_n hx hb dX11_many_76 rfl (lv_at hl 0 rfl) ?_
          refine lv_iconst (v := 3) hx hb dX11_many_77 (by decide) ?_
          refine mcV hf hk hst hw (c_X11_get3 l g oh os ok ol ord odd otp olt orw oso osz oit oho ohe otr stp laws z cnt fogs arms kinds faiths places moved isk tpd oat obg otk ovl rmn tcd own_ opt k (by omega)) (cwV 2 hts gX11_many_X11_get rfl rfl rfl hdV_X11_get ⟨Nat.le_of_ble_eq_true rfl, Nat.le_of_ble_eq_true rfl⟩) [0, 1] rfl rfl 0 rfl rfl rfl hl.1 rfl (Nat.le_of_ble_eq_true rfl) dX11_many_78 ⟨Nat.zero_le _, Nat.zero_le _⟩ (W' := [cob oh 11 [.ref os, .ref ok, .ref ol, .ref ord, .int isk, .ref odd, .ref otp, .int (nI tpd), .ref olt, .int oat, .int obg, .int otk, .int ovl, .ref orw, .int (nI rmn), .ref oso, .ref osz, .ref oit, .ref oho, .ref ohe, .ref otr, .int (nI tcd), .int own_, .int opt], cin g os 51 (mR stp laws z cnt fogs arms kinds faiths places moved)]) rfl (fun H locs hw => ?_)
          refine lv_if_le (tgt := 88) hx hb dX11_many_81 (by decide) (fun c_8 => ?_) (fun c_8 => ?_)
          · refine lv_iconst (v := 0) hx hb dX11_many_88 (by decide) ?_
            refine lv_iadd hx hb dX11_many_89 ?_
            refine lv_istore_n (lv' := [(2, .int ((posTo moved k) + 0)), (3, .int (nI k)), (0, .ref oh), (1, .int what)]) hx hb dX11_many_90 rfl hl (by decide) rfl (fun ls hl => ?_)
            refine lv_iinc (v := nI (k + 1)) (lv' := [(3, .int (nI (k + 1))), (2, .int ((posTo moved k) + 0)), (0, .ref oh), (1, .int what)]) hx hb dX11_many_91 hl (k := 1) rfl (nI_1 _) (by decide) rfl (fun ls hl => ?_)
            refine lv_goto (tgt := 63) hx hb dX11_many_94 (by decide) ?_
            have e_1 : (posTo moved k) + 0 = posTo moved (k + 1) := by rw [ad0]; exact (if_pos c_8).symm
            rw [e_1] at hl
            exact ih_63 (k + 1) (by omega) (by omega) _ _ hw _ (lv_sub hl [0, 1, 2, 3] rfl)
          · refine lv_iconst (v := 1) hx hb dX11_many_84 (by decide) ?_
            refine lv_goto (tgt := 89) hx hb dX11_many_85 (by decide) ?_
            refine lv_iadd hx hb dX11_many_89 ?_
            refine lv_istore_n (lv' := [(2, .int ((posTo moved k) + 1)), (3, .int (nI k)), (0, .ref oh), (1, .int what)]) hx hb dX11_many_90 rfl hl (by decide) rfl (fun ls hl => ?_)
            refine lv_iinc (v := nI (k + 1)) (lv' := [(3, .int (nI (k + 1))), (2, .int ((posTo moved k) + 1)), (0, .ref oh), (1, .int what)]) hx hb dX11_many_91 hl (k := 1) rfl (nI_1 _) (by decide) rfl (fun ls hl => ?_)
            refine lv_goto (tgt := 63) hx hb dX11_many_94 (by decide) ?_
            have e_1 : (posTo moved k) + 1 = posTo moved (k + 1) := (if_neg c_8).symm
            rw [e_1] at hl
            exact ih_63 (k + 1) (by omega) (by omega) _ _ hw _ (lv_sub hl [0, 1, 2, 3] rfl)
    exact lp_63_5 (cnt + 1) 0 (by omega) (by omega) _ _ hw _ (lv_sub hl [0, 1, 2, 3] rfl)
  by_cases c_9 : what = 4
  · refine lv_tableIn (off := 96) (tgt := 99) hx hb dX11_many_3 (by rw [c_9]; decide) (by rw [c_9]; decide) (by rw [c_9]; rfl) (by decide) ?_
    refine lv_aload_n hx hb dX11_many_99 rfl (lv_at hl 1 rfl) ?_
    refine rg hf hk hw hinX11 0 rfl rfl 14 (by decide) w_1 rfl dX11_many_100 ?_
    exact rE_i hf hr hlk hw ⟨congrArg some (by simp only [f_X11_many, if_neg c_2, if_neg c_3, if_neg c_4, if_neg c_5, if_pos c_9]), rfl⟩ (show ([oh, os] : List Nat) = [oh, os] from rfl) dX11_many_103
  by_cases c_10 : what = 5
  · refine lv_tableIn (off := 101) (tgt := 104) hx hb dX11_many_3 (by rw [c_10]; decide) (by rw [c_10]; decide) (by rw [c_10]; rfl) (by decide) ?_
    refine lv_aload_n hx hb dX11_many_104 rfl (lv_at hl 1 rfl) ?_
    refine rg hf hk hw hinX11 0 rfl rfl 7 (by decide) w_2 rfl dX11_many_105 ?_
    exact rE_i hf hr hlk hw ⟨congrArg some (by simp only [f_X11_many, if_neg c_2, if_neg c_3, if_neg c_4, if_neg c_5, if_neg c_9, if_pos c_10]), rfl⟩ (show ([oh, os] : List Nat) = [oh, os] from rfl) dX11_many_108
  by_cases c_11 : what = 6
  · refine lv_tableIn (off := 106) (tgt := 109) hx hb dX11_many_3 (by rw [c_11]; decide) (by rw [c_11]; decide) (by rw [c_11]; rfl) (by decide) ?_
    refine lv_aload_n hx hb dX11_many_109 rfl (lv_at hl 1 rfl) ?_
    refine rg hf hk hw hinX11 0 rfl rfl 21 (by decide) w_3 rfl dX11_many_110 ?_
    exact rE_i hf hr hlk hw ⟨congrArg some (by simp only [f_X11_many, if_neg c_2, if_neg c_3, if_neg c_4, if_neg c_5, if_neg c_9, if_neg c_10, if_pos c_11]), rfl⟩ (show ([oh, os] : List Nat) = [oh, os] from rfl) dX11_many_113
  refine lv_tableOut (tgt := 114) hx hb dX11_many_3 (sw_o2 0 6 [0, 1, 2, 3, 4, 5, 6] (by decide) (by decide) (by simp only [List.mem_cons, List.not_mem_nil, or_false, not_or]; exact ⟨c_2, c_3, c_4, c_5, c_9, c_10, c_11⟩)) (by decide) ?_
  refine lv_iconst (v := (-1)) hx hb dX11_many_114 (by decide) ?_
  exact rE_i hf hr hlk hw ⟨congrArg some (by simp only [f_X11_many, if_neg c_2, if_neg c_3, if_neg c_4, if_neg c_5, if_neg c_9, if_neg c_10, if_neg c_11]), rfl⟩ (show ([oh, os] : List Nat) = [oh, os] from rfl) dX11_many_115
theorem hdS_X11_copies : yX11_copies.cls ≠ "java/lang/invoke/MethodHandle" ∧ yX11_copies.cls ≠ "java/lang/invoke/VarHandle" ∧ (parseMethodDescriptor yX11_copies.desc).map (fun d => d.parameters.length) = some 2 := by decide +kernel
abbrev rmX11_keep : Room := { frames := 1, cells := 0, slots := 0, locals := 22 }
set_option maxHeartbeats 4000000 in
set_option maxRecDepth 100000 in
theorem c_X11_keep (l : Launch) (g : GG) (oh : Nat) (os : Nat) (ok : Nat) (ol : Nat) (ord : Nat) (odd : Nat) (otp : Nat) (olt : Nat) (orw : Nat) (oso : Nat) (osz : Nat) (oit : Nat) (oho : Nat) (ohe : Nat) (otr : Nat) (stp : Nat) (laws : Nat → Int32) (z : Int32) (cnt : Nat) (fogs : Nat → Int32) (arms : Nat → Int32) (kinds : Nat → Int32) (faiths : Nat → Int32) (places : Nat → Int32) (moved : Nat → Int32) (isk : Int32) (tpd : Nat) (oat : Int32) (obg : Int32) (otk : Int32) (ovl : Int32) (rmn : Nat) (tcd : Nat) (own_ : Int32) (opt : Int32) (kr : Nat → Int32) : mtR l g yX11_keep wsX11_keep rmX11_keep [.ref oh] [cob oh 11 [.ref os, .ref ok, .ref ol, .ref ord, .int isk, .ref odd, .ref otp, .int (nI tpd), .ref olt, .int oat, .int obg, .int otk, .int ovl, .ref orw, .int (nI rmn), .ref oso, .ref osz, .ref oit, .ref oho, .ref ohe, .ref otr, .int (nI tcd), .int own_, .int opt], cin g os 51 (mR stp laws z cnt fogs arms kinds faiths places moved), cin g ok 51 kr] (fun rv W => rv = (some (.int 1)) ∧ W = [cob oh 11 [.ref os, .ref ok, .ref ol, .ref ord, .int 1, .ref odd, .ref otp, .int (nI tpd), .ref olt, .int oat, .int obg, .int otk, .int ovl, .ref orw, .int (nI rmn), .ref oso, .ref osz, .ref oit, .ref oho, .ref ohe, .ref otr, .int (nI tcd), .int own_, .int opt], cin g os 51 (mR stp laws z cnt fogs arms kinds faiths places moved), cin g ok 51 (mR stp laws z cnt fogs arms kinds faiths places moved)]) := by
  refine mtR.of (cc := cX11_keep) (nL := 1) (ret := (some .int)) (own := RX11) (by decide +kernel) rfl rfl (Nat.le_of_ble_eq_true rfl) (fun p e s m below meth c hf hr hlk _ hk hst hw ls hl => ?_)
  have hx := hf.1
  have hb := hf.2.1
  have hts := hf.2.2.2.2
  have hl : lv_has ls 1 [(0, .ref oh)] := hl
  have hinX11 : ∀ w ∈ u_ws RX11 TX11 24, w ∈ wsX11_keep := fun w h => List.mem_cons_of_mem _ (List.mem_append_right _ h)
  have w_0 : Cond.fieldLink RX11 9 "LightManModel" "s" "[I" ∈ wsX11_keep := List.mem_of_getElem? (i := 1) rfl
  have w_1 : Cond.fieldLink RX11 13 "LightManModel" "kept" "[I" ∈ wsX11_keep := List.mem_of_getElem? (i := 2) rfl
  have w_2 : Cond.fieldLink RX11 260 "LightManModel" "isKept" "Z" ∈ wsX11_keep := List.mem_of_getElem? (i := 3) rfl
  refine lv_aload_n hx hb dX11_keep_0 rfl (lv_at hl 0 rfl) ?_
  refine rg hf hk hw hinX11 0 rfl rfl 0 (by decide) w_0 rfl dX11_keep_1 ?_
  refine lv_aload_n hx hb dX11_keep_4 rfl (lv_at hl 0 rfl) ?_
  refine rg hf hk hw hinX11 0 rfl rfl 1 (by decide) w_1 rfl dX11_keep_5 ?_
  refine mcS hf hk hst hw (c_X11_copies l g os ok (mR stp laws z cnt fogs arms kinds faiths places moved) kr) (va_cwS 2 hts gX11_keep_X11_copies rfl rfl rfl hdS_X11_copies ⟨Nat.le_of_ble_eq_true rfl, Nat.le_of_ble_eq_true rfl⟩) [1, 2] rfl rfl rfl hl.1 rfl (Nat.le_of_ble_eq_true rfl) dX11_keep_8 ⟨Nat.zero_le _, Nat.zero_le _⟩ (W' := [cob oh 11 [.ref os, .ref ok, .ref ol, .ref ord, .int isk, .ref odd, .ref otp, .int (nI tpd), .ref olt, .int oat, .int obg, .int otk, .int ovl, .ref orw, .int (nI rmn), .ref oso, .ref osz, .ref oit, .ref oho, .ref ohe, .ref otr, .int (nI tcd), .int own_, .int opt], cin g os 51 (mR stp laws z cnt fogs arms kinds faiths places moved), cin g ok 51 (mR stp laws z cnt fogs arms kinds faiths places moved)]) rfl (fun H locs hw => ?_)
  refine lv_aload_n hx hb dX11_keep_11 rfl (lv_at hl 0 rfl) ?_
  refine lv_iconst (v := 1) hx hb dX11_keep_12 (by decide) ?_
  refine rp hf hk hw hinX11 tyX11 tyX11_ok nmX11 0 rfl rfl 4 (by decide) w_2 rfl (rfl) rfl (Nat.le_of_ble_eq_true rfl) dX11_keep_13 (W' := [cob oh 11 [.ref os, .ref ok, .ref ol, .ref ord, .int 1, .ref odd, .ref otp, .int (nI tpd), .ref olt, .int oat, .int obg, .int otk, .int ovl, .ref orw, .int (nI rmn), .ref oso, .ref osz, .ref oit, .ref oho, .ref ohe, .ref otr, .int (nI tcd), .int own_, .int opt], cin g os 51 (mR stp laws z cnt fogs arms kinds faiths places moved), cin g ok 51 (mR stp laws z cnt fogs arms kinds faiths places moved)]) rfl (fun H locs hw => ?_)
  refine lv_iconst (v := 1) hx hb dX11_keep_16 (by decide) ?_
  exact rE_i hf hr hlk hw ⟨rfl, rfl⟩ (show ([oh, os, ok] : List Nat) = [oh, os, ok] from rfl) dX11_keep_17
def f_X11_again (isk : Int32) (ycnt : Nat) : Int32 := if isk = 0 then (-3) else (nI ycnt)
def f_X11_again_w1 (stp : Nat) (isk : Int32) (ystp : Nat) : Nat := if isk = 0 then stp else ystp
def f_X11_again_w2 (laws : Nat → Int32) (isk : Int32) (ylaws : Nat → Int32) : Nat → Int32 := if isk = 0 then laws else ylaws
def f_X11_again_w3 (z : Int32) (isk : Int32) (yz : Int32) : Int32 := if isk = 0 then z else yz
def f_X11_again_w4 (cnt : Nat) (isk : Int32) (ycnt : Nat) : Nat := if isk = 0 then cnt else ycnt
def f_X11_again_w5 (fogs : Nat → Int32) (isk : Int32) (yfogs : Nat → Int32) : Nat → Int32 := if isk = 0 then fogs else yfogs
def f_X11_again_w6 (arms : Nat → Int32) (isk : Int32) (yarms : Nat → Int32) : Nat → Int32 := if isk = 0 then arms else yarms
def f_X11_again_w7 (kinds : Nat → Int32) (isk : Int32) (ykinds : Nat → Int32) : Nat → Int32 := if isk = 0 then kinds else ykinds
def f_X11_again_w8 (faiths : Nat → Int32) (isk : Int32) (yfaiths : Nat → Int32) : Nat → Int32 := if isk = 0 then faiths else yfaiths
def f_X11_again_w9 (places : Nat → Int32) (isk : Int32) (yplaces : Nat → Int32) : Nat → Int32 := if isk = 0 then places else yplaces
def f_X11_again_w10 (moved : Nat → Int32) (isk : Int32) (ymoved : Nat → Int32) : Nat → Int32 := if isk = 0 then moved else ymoved
abbrev rmX11_again : Room := { frames := 1, cells := 0, slots := 0, locals := 22 }
set_option maxHeartbeats 4000000 in
set_option maxRecDepth 100000 in
theorem c_X11_again (l : Launch) (g : GG) (oh : Nat) (os : Nat) (ok : Nat) (ol : Nat) (ord : Nat) (odd : Nat) (otp : Nat) (olt : Nat) (orw : Nat) (oso : Nat) (osz : Nat) (oit : Nat) (oho : Nat) (ohe : Nat) (otr : Nat) (stp : Nat) (laws : Nat → Int32) (z : Int32) (cnt : Nat) (fogs : Nat → Int32) (arms : Nat → Int32) (kinds : Nat → Int32) (faiths : Nat → Int32) (places : Nat → Int32) (moved : Nat → Int32) (isk : Int32) (tpd : Nat) (oat : Int32) (obg : Int32) (otk : Int32) (ovl : Int32) (rmn : Nat) (tcd : Nat) (own_ : Int32) (opt : Int32) (ystp : Nat) (ylaws : Nat → Int32) (yz : Int32) (ycnt : Nat) (yfogs : Nat → Int32) (yarms : Nat → Int32) (ykinds : Nat → Int32) (yfaiths : Nat → Int32) (yplaces : Nat → Int32) (ymoved : Nat → Int32) : mtR l g yX11_again wsX11_again rmX11_again [.ref oh] [cob oh 11 [.ref os, .ref ok, .ref ol, .ref ord, .int isk, .ref odd, .ref otp, .int (nI tpd), .ref olt, .int oat, .int obg, .int otk, .int ovl, .ref orw, .int (nI rmn), .ref oso, .ref osz, .ref oit, .ref oho, .ref ohe, .ref otr, .int (nI tcd), .int own_, .int opt], cin g os 51 (mR stp laws z cnt fogs arms kinds faiths places moved), cin g ok 51 (mR ystp ylaws yz ycnt yfogs yarms ykinds yfaiths yplaces ymoved)] (fun rv W => rv = (some (.int (f_X11_again isk ycnt))) ∧ W = [cob oh 11 [.ref os, .ref ok, .ref ol, .ref ord, .int isk, .ref odd, .ref otp, .int (nI tpd), .ref olt, .int oat, .int obg, .int otk, .int ovl, .ref orw, .int (nI rmn), .ref oso, .ref osz, .ref oit, .ref oho, .ref ohe, .ref otr, .int (nI tcd), .int own_, .int opt], cin g os 51 (mR (f_X11_again_w1 stp isk ystp) (f_X11_again_w2 laws isk ylaws) (f_X11_again_w3 z isk yz) (f_X11_again_w4 cnt isk ycnt) (f_X11_again_w5 fogs isk yfogs) (f_X11_again_w6 arms isk yarms) (f_X11_again_w7 kinds isk ykinds) (f_X11_again_w8 faiths isk yfaiths) (f_X11_again_w9 places isk yplaces) (f_X11_again_w10 moved isk ymoved)), cin g ok 51 (mR ystp ylaws yz ycnt yfogs yarms ykinds yfaiths yplaces ymoved)]) := by
  refine mtR.of (cc := cX11_again) (nL := 1) (ret := (some .int)) (own := RX11) (by decide +kernel) rfl rfl (Nat.le_of_ble_eq_true rfl) (fun p e s m below meth c hf hr hlk _ hk hst hw ls hl => ?_)
  have hx := hf.1
  have hb := hf.2.1
  have hts := hf.2.2.2.2
  have hl : lv_has ls 1 [(0, .ref oh)] := hl
  have hinX11 : ∀ w ∈ u_ws RX11 TX11 24, w ∈ wsX11_again := fun w h => List.mem_cons_of_mem _ (List.mem_append_right _ h)
  have w_0 : Cond.fieldLink RX11 260 "LightManModel" "isKept" "Z" ∈ wsX11_again := List.mem_of_getElem? (i := 1) rfl
  have w_1 : Cond.fieldLink RX11 13 "LightManModel" "kept" "[I" ∈ wsX11_again := List.mem_of_getElem? (i := 2) rfl
  have w_2 : Cond.fieldLink RX11 9 "LightManModel" "s" "[I" ∈ wsX11_again := List.mem_of_getElem? (i := 3) rfl
  refine lv_aload_n hx hb dX11_again_0 rfl (lv_at hl 0 rfl) ?_
  refine rg hf hk hw hinX11 0 rfl rfl 4 (by decide) w_0 rfl dX11_again_1 ?_
  refine lv_if_ne (tgt := 10) hx hb dX11_again_4 (by decide) (fun c_1 => ?_) (fun c_1 => ?_)
  · refine lv_aload_n hx hb dX11_again_10 rfl (lv_at hl 0 rfl) ?_
    refine rg hf hk hw hinX11 0 rfl rfl 1 (by decide) w_1 rfl dX11_again_11 ?_
    refine lv_aload_n hx hb dX11_again_14 rfl (lv_at hl 0 rfl) ?_
    refine rg hf hk hw hinX11 0 rfl rfl 0 (by decide) w_2 rfl dX11_again_15 ?_
    refine mcS hf hk hst hw (c_X11_copies l g ok os (mR ystp ylaws yz ycnt yfogs yarms ykinds yfaiths yplaces ymoved) (mR stp laws z cnt fogs arms kinds faiths places moved)) (va_cwS 2 hts gX11_again_X11_copies rfl rfl rfl hdS_X11_copies ⟨Nat.le_of_ble_eq_true rfl, Nat.le_of_ble_eq_true rfl⟩) [2, 1] rfl rfl rfl hl.1 rfl (Nat.le_of_ble_eq_true rfl) dX11_again_18 ⟨Nat.zero_le _, Nat.zero_le _⟩ (W' := [cob oh 11 [.ref os, .ref ok, .ref ol, .ref ord, .int isk, .ref odd, .ref otp, .int (nI tpd), .ref olt, .int oat, .int obg, .int otk, .int ovl, .ref orw, .int (nI rmn), .ref oso, .ref osz, .ref oit, .ref oho, .ref ohe, .ref otr, .int (nI tcd), .int own_, .int opt], cin g os 51 (mR ystp ylaws yz ycnt yfogs yarms ykinds yfaiths yplaces ymoved), cin g ok 51 (mR ystp ylaws yz ycnt yfogs yarms ykinds yfaiths yplaces ymoved)]) rfl (fun H locs hw => ?_)
    refine lv_aload_n hx hb dX11_again_21 rfl (lv_at hl 0 rfl) ?_
    refine rg hf hk hw hinX11 0 rfl rfl 0 (by decide) w_2 rfl dX11_again_22 ?_
    refine lv_bipush (v := 6) hx hb dX11_again_25 (by decide) ?_
    refine rij hf hk hw 1 rfl (j := 6) (vp_in_nI (n := 6) (by omega) (by omega)) (rfl) dX11_again_27 ?_
    refine lv_tope (y := nI ycnt) (rfl) ?_
    exact rE_i hf hr hlk hw ⟨congrArg some (by simp only [f_X11_again, if_neg c_1]), by simp only [f_X11_again_w1, f_X11_again_w2, f_X11_again_w3, f_X11_again_w4, f_X11_again_w5, f_X11_again_w6, f_X11_again_w7, f_X11_again_w8, f_X11_again_w9, f_X11_again_w10, if_neg c_1]⟩ (show ([oh, os, ok] : List Nat) = [oh, os, ok] from rfl) dX11_again_28
  · refine lv_bipush (v := (-3)) hx hb dX11_again_7 (by decide) ?_
    exact rE_i hf hr hlk hw ⟨congrArg some (by simp only [f_X11_again, if_pos c_1]), by simp only [f_X11_again_w1, f_X11_again_w2, f_X11_again_w3, f_X11_again_w4, f_X11_again_w5, f_X11_again_w6, f_X11_again_w7, f_X11_again_w8, f_X11_again_w9, f_X11_again_w10, if_pos c_1]⟩ (show ([oh, os, ok] : List Nat) = [oh, os, ok] from rfl) dX11_again_9
abbrev rmX11_isRow : Room := { frames := 1, cells := 0, slots := 0, locals := 22 }
set_option maxHeartbeats 4000000 in
set_option maxRecDepth 100000 in
theorem c_X11_isRow (l : Launch) (g : GG) (oh : Nat) (os : Nat) (ok : Nat) (ol : Nat) (ord : Nat) (odd : Nat) (otp : Nat) (olt : Nat) (orw : Nat) (oso : Nat) (osz : Nat) (oit : Nat) (oho : Nat) (ohe : Nat) (otr : Nat) (isk : Int32) (tpd : Nat) (oat : Int32) (obg : Int32) (otk : Int32) (ovl : Int32) (rmn : Nat) (tcd : Nat) (own_ : Int32) (opt : Int32) (x : Int32) (w : Int32) : mt l g yX11_isRow wsX11_isRow rmX11_isRow [.ref oh, .int x, .int w] [cob oh 11 [.ref os, .ref ok, .ref ol, .ref ord, .int isk, .ref odd, .ref otp, .int (nI tpd), .ref olt, .int oat, .int obg, .int otk, .int ovl, .ref orw, .int (nI rmn), .ref oso, .ref osz, .ref oit, .ref oho, .ref ohe, .ref otr, .int (nI tcd), .int own_, .int opt]] (some (.int (rwI rmn x w))) [cob oh 11 [.ref os, .ref ok, .ref ol, .ref ord, .int isk, .ref odd, .ref otp, .int (nI tpd), .ref olt, .int oat, .int obg, .int otk, .int ovl, .ref orw, .int (nI rmn), .ref oso, .ref osz, .ref oit, .ref oho, .ref ohe, .ref otr, .int (nI tcd), .int own_, .int opt]] := by
  refine mt.of (cc := cX11_isRow) (nL := 3) (ret := (some .boolean)) (own := RX11) (by decide +kernel) rfl rfl (show ([oh] : List Nat) = [oh] from rfl) (Nat.le_of_ble_eq_true rfl) (fun p e s m below meth c hf hr hlk _ hk hst hw ls hl => ?_)
  have hx := hf.1
  have hb := hf.2.1
  have hts := hf.2.2.2.2
  have hl : lv_has ls 3 [(0, .ref oh), (1, .int x), (2, .int w)] := hl
  have hinX11 : ∀ w ∈ u_ws RX11 TX11 24, w ∈ wsX11_isRow := fun w h => List.mem_cons_of_mem _ (List.mem_append_right _ h)
  have w_0 : Cond.fieldLink RX11 162 "LightManModel" "rowMany" "I" ∈ wsX11_isRow := List.mem_of_getElem? (i := 1) rfl
  refine lv_iload_n hx hb dX11_isRow_0 rfl (lv_at hl 1 rfl) ?_
  refine lv_iconst (v := 0) hx hb dX11_isRow_1 (by decide) ?_
  refine lv_aload_n hx hb dX11_isRow_2 rfl (lv_at hl 0 rfl) ?_
  refine rg hf hk hw hinX11 0 rfl rfl 14 (by decide) w_0 rfl dX11_isRow_3 ?_
  refine lv_iconst (v := 1) hx hb dX11_isRow_6 (by decide) ?_
  refine lv_isub hx hb dX11_isRow_7 ?_
  refine mcS hf hk hst hw (c_X11_in1 l g x 0 ((nI rmn) - 1)) (va_cwS 3 hts gX11_isRow_X11_in1 rfl rfl rfl hdS_X11_in1 ⟨Nat.le_of_ble_eq_true rfl, Nat.le_of_ble_eq_true rfl⟩) [] rfl rfl rfl hl.1 rfl (Nat.le_of_ble_eq_true rfl) dX11_isRow_8 ⟨Nat.zero_le _, Nat.zero_le _⟩ (W' := [cob oh 11 [.ref os, .ref ok, .ref ol, .ref ord, .int isk, .ref odd, .ref otp, .int (nI tpd), .ref olt, .int oat, .int obg, .int otk, .int ovl, .ref orw, .int (nI rmn), .ref oso, .ref osz, .ref oit, .ref oho, .ref ohe, .ref otr, .int (nI tcd), .int own_, .int opt]]) rfl (fun H locs hw => ?_)
  refine lv_if_eq (tgt := 27) hx hb dX11_isRow_11 (by decide) (fun c_1 => ?_) (fun c_1 => ?_)
  · refine lv_iconst (v := 0) hx hb dX11_isRow_27 (by decide) ?_
    exact re_z hf hr hlk hw (rfl) (by unfold rwI f_X10_isNoPartOfRow; simp only [if_neg (nO_0 c_1)]; rfl) (rfl) dX11_isRow_28
  · refine lv_iload_n hx hb dX11_isRow_14 rfl (lv_at hl 2 rfl) ?_
    refine lv_iconst (v := 0) hx hb dX11_isRow_15 (by decide) ?_
    refine lv_iconst (v := 2) hx hb dX11_isRow_16 (by decide) ?_
    refine mcS hf hk hst hw (c_X11_in1 l g w 0 2) (va_cwS 3 hts gX11_isRow_X11_in1 rfl rfl rfl hdS_X11_in1 ⟨Nat.le_of_ble_eq_true rfl, Nat.le_of_ble_eq_true rfl⟩) [] rfl rfl rfl hl.1 rfl (Nat.le_of_ble_eq_true rfl) dX11_isRow_17 ⟨Nat.zero_le _, Nat.zero_le _⟩ (W' := [cob oh 11 [.ref os, .ref ok, .ref ol, .ref ord, .int isk, .ref odd, .ref otp, .int (nI tpd), .ref olt, .int oat, .int obg, .int otk, .int ovl, .ref orw, .int (nI rmn), .ref oso, .ref osz, .ref oit, .ref oho, .ref ohe, .ref otr, .int (nI tcd), .int own_, .int opt]]) rfl (fun H locs hw => ?_)
    refine lv_if_eq (tgt := 27) hx hb dX11_isRow_20 (by decide) (fun c_2 => ?_) (fun c_2 => ?_)
    · refine lv_iconst (v := 0) hx hb dX11_isRow_27 (by decide) ?_
      exact re_z hf hr hlk hw (rfl) (by unfold rwI f_X10_isNoPartOfRow; simp only [if_pos (nO_1 c_1), if_neg (nO_0 c_2)]; rfl) (rfl) dX11_isRow_28
    · refine lv_iconst (v := 1) hx hb dX11_isRow_23 (by decide) ?_
      refine lv_goto (tgt := 28) hx hb dX11_isRow_24 (by decide) ?_
      exact re_z hf hr hlk hw (rfl) (by unfold rwI f_X10_isNoPartOfRow; simp only [if_pos (nO_1 c_1), if_pos (nO_1 c_2)]; rfl) (rfl) dX11_isRow_28
