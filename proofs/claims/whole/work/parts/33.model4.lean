theorem cb_pos {x : Int32} (hx : x ≤ 61 ∧ 0 ≤ x) (h : 0 ≤ cbF x) : cbF x = x := by
  unfold cbF at h ⊢
  by_cases q : x ≤ 60
  · rw [if_pos q]
  · rw [if_neg q] at h; exact absurd h (by decide)
theorem cb_neg {x : Int32} (hx : x ≤ 61 ∧ 0 ≤ x) (h : ¬ 0 ≤ cbF x) : 61 = x := by
  unfold cbF at h
  by_cases q : x ≤ 60
  · rw [if_pos q] at h; exact absurd hx.2 h
  · apply i_eq
    have h1 := i_le.mp hx.1
    have h2 : ¬ x.toInt ≤ (60 : Int32).toInt := fun z => q (i_le.mpr z)
    have e1 : (61 : Int32).toInt = 61 := rfl
    have e2 : (60 : Int32).toInt = 60 := rfl
    omega
/-- the soonest, as the model seeks it -/
def kmB (v : Nat → Int32) : Nat → Int32 × Int32
  | 0 => (0, 62)
  | a + 1 => if (kmB v a).2 ≤ v a then kmB v a else (nI a, v a)
theorem kmB_kn {v : Nat → Int32} (h : v 0 ≤ 61) : ∀ a, kmB v (a + 1) = knB v a
  | 0 => by
    show (if (62 : Int32) ≤ v 0 then _ else _) = _
    rw [if_neg (fun q => absurd (Int32.le_trans q h) (by decide))]; rfl
  | a + 1 => by
    show (if (kmB v (a + 1)).2 ≤ v (a + 1) then kmB v (a + 1) else (nI (a + 1), v (a + 1))) = (if (knB v a).2 ≤ v (a + 1) then knB v a else (nI (a + 1), v (a + 1)))
    rw [kmB_kn h a]
/-- the best set of rests, as the model seeks it -/
def lfM (pv : Nat → Int32) (v : Int32) : Nat → Int32
  | 0 => -3
  | k + 1 => if pv k < v then lfM pv v k else if lfM pv v k < 0 then nI k else if bcF (lfM pv v k) ≤ bcF (nI k) then lfM pv v k else nI k
theorem lfM_ok (pv : Nat → Int32) (v : Int32) : ∀ k, k ≤ 64 → lfM pv v k = -3 ∨ (lfM pv v k = nI (ix (lfM pv v k)) ∧ ix (lfM pv v k) < k)
  | 0, _ => Or.inl rfl
  | k + 1, h => by
    have ih := lfM_ok pv v k (by omega)
    have hn : nI k = nI (ix (nI k)) ∧ ix (nI k) < k + 1 := by
      have e : ix (nI k) = k := nI_clamp (by omega)
      rw [e]; exact ⟨rfl, by omega⟩
    have hs : lfM pv v k = -3 ∨ (lfM pv v k = nI (ix (lfM pv v k)) ∧ ix (lfM pv v k) < k + 1) := by
      rcases ih with a | a
      · exact Or.inl a
      · exact Or.inr ⟨a.1, by omega⟩
    have e : lfM pv v (k + 1) = if pv k < v then lfM pv v k else if lfM pv v k < 0 then nI k else if bcF (lfM pv v k) ≤ bcF (nI k) then lfM pv v k else nI k := rfl
    rw [e]
    generalize lfM pv v k = b at hs ⊢
    split
    · exact hs
    · split
      · exact Or.inr hn
      · split
        · exact hs
        · exact Or.inr hn
theorem lfM_256 {pv : Nat → Int32} {v : Int32} {k : Nat} (hk : k ≤ 64) (h : ¬ lfM pv v k < 0) : lfM pv v k = nI (ix (lfM pv v k)) ∧ ix (lfM pv v k) < 256 := by
  rcases lfM_ok pv v k hk with a | a
  · rw [a] at h; exact absurd (by decide) h
  · exact ⟨a.1, by omega⟩
theorem lkS_z (laws fogs arms : Nat → Int32) (st : Nat) (kinds faiths places : Nat → Int32) (cnt : Nat) (z : Int32) (k : Nat) : (lkS laws fogs arms st kinds faiths places cnt z (k + 1)).2 = drZ2 (lkS laws fogs arms st kinds faiths places cnt z k).2 cnt := by rw [lkS]
theorem lkS_1 {laws fogs arms : Nat → Int32} {st : Nat} {kinds faiths places : Nat → Int32} {cnt : Nat} {z : Int32} {k : Nat} : (lkS laws fogs arms st kinds faiths places cnt z (k + 1)).1 = if sumTo (goP laws fogs arms st kinds (drF laws faiths (lkS laws fogs arms st kinds faiths places cnt z k).2 cnt) places cnt) cnt ≤ sumTo (goP laws fogs arms st kinds faiths places cnt) cnt then (lkS laws fogs arms st kinds faiths places cnt z k).1 else (lkS laws fogs arms st kinds faiths places cnt z k).1 + 1 := by rw [lkS]
theorem mR_z {stp cnt : Nat} {z : Int32} {laws fogs arms kinds faiths places moved : Nat → Int32} : mR stp laws z cnt fogs arms kinds faiths places moved 5 = z := rfl
theorem nIx {k : Nat} (h : k < 256) : nI k = nI (ix (nI k)) ∧ ix (nI k) < 256 := by
  have e : ix (nI k) = k := nI_clamp (by omega)
  rw [e]; exact ⟨rfl, h⟩
abbrev rmX11_kindFor : Room := { frames := 7, cells := 0, slots := 0, locals := 154 }
set_option maxHeartbeats 4000000 in
set_option maxRecDepth 100000 in
theorem c_X11_kindFor (l : Launch) (g : GG) (oh : Nat) (os : Nat) (ok : Nat) (ol : Nat) (ord : Nat) (odd : Nat) (otp : Nat) (olt : Nat) (orw : Nat) (oso : Nat) (osz : Nat) (oit : Nat) (oho : Nat) (ohe : Nat) (otr : Nat) (stp : Nat) (laws : Nat → Int32) (z : Int32) (cnt : Nat) (fogs : Nat → Int32) (arms : Nat → Int32) (kinds : Nat → Int32) (faiths : Nat → Int32) (places : Nat → Int32) (moved : Nat → Int32) (isk : Int32) (tpd : Nat) (oat : Int32) (obg : Int32) (otk : Int32) (ovl : Int32) (rmn : Nat) (tcd : Nat) (own_ : Int32) (opt : Int32) (lr : Nat → Int32) (dd : Nat → Int32) (goer : Int32) (hc8 : cnt ≤ 8) (hsp : stp < 2 ^ 29) (hpl : ∀ j, j < cnt → plOk (places j)) (hmo_ : ∀ j, j < cnt → moOk (moved j)) : mtR l g yX11_kindFor wsX11_kindFor rmX11_kindFor [.ref oh, .int goer] [cob oh 11 [.ref os, .ref ok, .ref ol, .ref ord, .int isk, .ref odd, .ref otp, .int (nI tpd), .ref olt, .int oat, .int obg, .int otk, .int ovl, .ref orw, .int (nI rmn), .ref oso, .ref osz, .ref oit, .ref oho, .ref ohe, .ref otr, .int (nI tcd), .int own_, .int opt], cin g os 51 (mR stp laws z cnt fogs arms kinds faiths places moved), cin g ol 51 lr, cin g odd 8 dd] (fun rv W => rv = (some (.int (if f_X8_has cnt goer = 0 then -1 else (knB (snV laws fogs arms stp (faiths (ix goer)) (places (ix goer)) (moved (ix goer))) 5).1))) ∧ ∃ (j0 : Nat → Int32) (j1 : Nat → Int32), W = [cob oh 11 [.ref os, .ref ok, .ref ol, .ref ord, .int isk, .ref odd, .ref otp, .int (nI tpd), .ref olt, .int oat, .int obg, .int otk, .int ovl, .ref orw, .int (nI rmn), .ref oso, .ref osz, .ref oit, .ref oho, .ref ohe, .ref otr, .int (nI tcd), .int own_, .int opt], cin g os 51 (mR stp laws z cnt fogs arms kinds faiths places moved), cin g ol 51 j0, cin g odd 8 j1]) := by
  refine mtR.of (cc := cX11_kindFor) (nL := 6) (ret := (some .int)) (own := RX11) (by decide +kernel) rfl rfl (Nat.le_of_ble_eq_true rfl) (fun p e s m below meth c hf hr hlk _ hk hst hw ls hl => ?_)
  have hx := hf.1
  have hb := hf.2.1
  have hts := hf.2.2.2.2
  have hl : lv_has ls 6 [(0, .ref oh), (1, .int goer)] := hl
  have hinX11 : ∀ w ∈ u_ws RX11 TX11 24, w ∈ wsX11_kindFor := fun w h => List.mem_cons_of_mem _ (List.mem_append_right _ h)
  have w_0 : Cond.fieldLink RX11 9 "LightManModel" "s" "[I" ∈ wsX11_kindFor := List.mem_of_getElem? (i := 1) rfl
  have w_1 : Cond.fieldLink RX11 16 "LightManModel" "laid" "[I" ∈ wsX11_kindFor := List.mem_of_getElem? (i := 2) rfl
  refine lv_aload_n hx hb dX11_kindFor_0 rfl (lv_at hl 0 rfl) ?_
  refine lv_iload_n hx hb dX11_kindFor_1 rfl (lv_at hl 1 rfl) ?_
  refine mcV hf hk hst hw (c_X11_isGoer l g oh os ok ol ord odd otp olt orw oso osz oit oho ohe otr stp laws z cnt fogs arms kinds faiths places moved isk tpd oat obg otk ovl rmn tcd own_ opt goer (by omega)) (cwV 1 hts gX11_kindFor_X11_isGoer rfl rfl rfl hdV_X11_isGoer ⟨Nat.le_of_ble_eq_true rfl, Nat.le_of_ble_eq_true rfl⟩) [0, 1] rfl rfl 0 rfl rfl rfl hl.1 rfl (Nat.le_of_ble_eq_true rfl) dX11_kindFor_2 ⟨Nat.zero_le _, Nat.zero_le _⟩ (W' := [cob oh 11 [.ref os, .ref ok, .ref ol, .ref ord, .int isk, .ref odd, .ref otp, .int (nI tpd), .ref olt, .int oat, .int obg, .int otk, .int ovl, .ref orw, .int (nI rmn), .ref oso, .ref osz, .ref oit, .ref oho, .ref ohe, .ref otr, .int (nI tcd), .int own_, .int opt], cin g os 51 (mR stp laws z cnt fogs arms kinds faiths places moved), cin g ol 51 lr, cin g odd 8 dd]) rfl (fun H locs hw => ?_)
  refine lv_if_ne (tgt := 10) hx hb dX11_kindFor_5 (by decide) (fun c_1 => ?_) (fun c_1 => ?_)
  · have hg := has_n hc8 c_1
    have hg2 := hg.2
    refine lv_aload_n hx hb dX11_kindFor_10 rfl (lv_at hl 0 rfl) ?_
    refine rg hf hk hw hinX11 0 rfl rfl 0 (by decide) w_0 rfl dX11_kindFor_11 ?_
    refine lv_aload_n hx hb dX11_kindFor_14 rfl (lv_at hl 0 rfl) ?_
    refine rg hf hk hw hinX11 0 rfl rfl 2 (by decide) w_1 rfl dX11_kindFor_15 ?_
    refine mcS hf hk hst hw (c_X11_copies l g os ol (mR stp laws z cnt fogs arms kinds faiths places moved) lr) (va_cwS 2 hts gX11_kindFor_X11_copies rfl rfl rfl hdS_X11_copies ⟨Nat.le_of_ble_eq_true rfl, Nat.le_of_ble_eq_true rfl⟩) [1, 2] rfl rfl rfl hl.1 rfl (Nat.le_of_ble_eq_true rfl) dX11_kindFor_18 ⟨Nat.zero_le _, Nat.zero_le _⟩ (W' := [cob oh 11 [.ref os, .ref ok, .ref ol, .ref ord, .int isk, .ref odd, .ref otp, .int (nI tpd), .ref olt, .int oat, .int obg, .int otk, .int ovl, .ref orw, .int (nI rmn), .ref oso, .ref osz, .ref oit, .ref oho, .ref ohe, .ref otr, .int (nI tcd), .int own_, .int opt], cin g os 51 (mR stp laws z cnt fogs arms kinds faiths places moved), cin g ol 51 (mR stp laws z cnt fogs arms kinds faiths places moved), cin g odd 8 dd]) rfl (fun H locs hw => ?_)
    refine lv_iconst (v := 0) hx hb dX11_kindFor_21 (by decide) ?_
    refine lv_istore_n (lv' := [(2, .int 0), (0, .ref oh), (1, .int goer)]) hx hb dX11_kindFor_22 rfl hl (by decide) rfl (fun ls hl => ?_)
    refine lv_bipush (v := 62) hx hb dX11_kindFor_23 (by decide) ?_
    refine lv_istore_n (lv' := [(3, .int 62), (2, .int 0), (0, .ref oh), (1, .int goer)]) hx hb dX11_kindFor_25 rfl hl (by decide) rfl (fun ls hl => ?_)
    refine lv_iconst (v := 0) hx hb dX11_kindFor_26 (by decide) ?_
    refine lv_istore (lv' := [(4, .int 0), (3, .int 62), (2, .int 0), (0, .ref oh), (1, .int goer)]) hx hb dX11_kindFor_27 hl (by decide) rfl (fun ls hl => ?_)
    have lp_29_1 : ∀ (fu k : Nat) (de : Nat → Int32), k ≤ 6 → 6 + 1 ≤ k + fu → ∀ (H : Heap) (locs : List Loc), hv g (va_I [cob oh 11 [.ref os, .ref ok, .ref ol, .ref ord, .int isk, .ref odd, .ref otp, .int (nI tpd), .ref olt, .int oat, .int obg, .int otk, .int ovl, .ref orw, .int (nI rmn), .ref oso, .ref osz, .ref oit, .ref oho, .ref ohe, .ref otr, .int (nI tcd), .int own_, .int opt], cin g os 51 (mR stp laws z cnt fogs arms kinds faiths places moved), cin g ol 51 lr, cin g odd 8 dd]) s H locs [cob oh 11 [.ref os, .ref ok, .ref ol, .ref ord, .int isk, .ref odd, .ref otp, .int (nI tpd), .ref olt, .int oat, .int obg, .int otk, .int ovl, .ref orw, .int (nI rmn), .ref oso, .ref osz, .ref oit, .ref oho, .ref ohe, .ref otr, .int (nI tcd), .int own_, .int opt], cin g os 51 (mR stp laws z cnt fogs arms kinds faiths places moved), cin g ol 51 (mR stp laws z cnt fogs arms kinds faiths places moved), cin g odd 8 de] → ∀ ls : Array Slot, lv_has ls 6 [(4, .int (nI k)), (3, .int ((kmB (snV laws fogs arms stp (faiths (ix goer)) (places (ix goer)) (moved (ix goer))) k).2)), (2, .int ((kmB (snV laws fogs arms stp (faiths (ix goer)) (places (ix goer)) (moved (ix goer))) k).1)), (0, .ref oh), (1, .int goer)] → W p l e rmX11_kindFor s m ([.ref oh, .int goer] : List Value).toArray below meth c H locs 0 0 (MQ below (mtS g [cob oh 11 [.ref os, .ref ok, .ref ol, .ref ord, .int isk, .ref odd, .ref otp, .int (nI tpd), .ref olt, .int oat, .int obg, .int otk, .int ovl, .ref orw, .int (nI rmn), .ref oso, .ref osz, .ref oit, .ref oho, .ref ohe, .ref otr, .int (nI tcd), .int own_, .int opt], cin g os 51 (mR stp laws z cnt fogs arms kinds faiths places moved), cin g ol 51 lr, cin g odd 8 dd] (fun rv W => rv = (some (.int (if f_X8_has cnt goer = 0 then -1 else (knB (snV laws fogs arms stp (faiths (ix goer)) (places (ix goer)) (moved (ix goer))) 5).1))) ∧ ∃ (j0 : Nat → Int32) (j1 : Nat → Int32), W = [cob oh 11 [.ref os, .ref ok, .ref ol, .ref ord, .int isk, .ref odd, .ref otp, .int (nI tpd), .ref olt, .int oat, .int obg, .int otk, .int ovl, .ref orw, .int (nI rmn), .ref oso, .ref osz, .ref oit, .ref oho, .ref ohe, .ref otr, .int (nI tcd), .int own_, .int opt], cin g os 51 (mR stp laws z cnt fogs arms kinds faiths places moved), cin g ol 51 j0, cin g odd 8 j1])) ([.ref oh, .int goer] : List Value).toArray s 0 0 (va_I [cob oh 11 [.ref os, .ref ok, .ref ol, .ref ord, .int isk, .ref odd, .ref otp, .int (nI tpd), .ref olt, .int oat, .int obg, .int otk, .int ovl, .ref orw, .int (nI rmn), .ref oso, .ref osz, .ref oit, .ref oho, .ref ohe, .ref otr, .int (nI tcd), .int own_, .int opt], cin g os 51 (mR stp laws z cnt fogs arms kinds faiths places moved), cin g ol 51 lr, cin g odd 8 dd])) (F0 m 29 ls []) := by
      intro fu
      induction fu with
      | zero =>
        intro k de h1 h2
        exact absurd h2 (by omega)
      | succ fu ih_29 =>
        intro k de hk1_29 hk2_29 H locs hw ls hl
        refine lv_iload hx hb dX11_kindFor_29 (lv_at hl 0 rfl) ?_
        refine lv_bipush (v := 6) hx hb dX11_kindFor_31 (by decide) ?_
        refine lv_icmp_ge (tgt := 108) hx hb dX11_kindFor_33 (by decide) (fun c_3 => ?_) (fun c_3 => ?_)
        · have hkE : k = 6 := Nat.le_antisymm hk1_29 ((nI_leI (a := 6) (by omega) (by omega)).mp c_3)
          refine lv_iload_n hx hb dX11_kindFor_108 rfl (lv_at hl 2 rfl) ?_
          exact rE_i hf hr hlk hw ⟨congrArg some (by simp only [if_neg c_1, hkE, kmB_kn (v := (snV laws fogs arms stp (faiths (ix goer)) (places (ix goer)) (moved (ix goer)))) (snR_k _ 61 0 rfl).1 5]), _, _, rfl⟩ (show ([oh, os, ol, odd] : List Nat) = [oh, os, ol, odd] from rfl) dX11_kindFor_109
        · have hkE : k < 6 := Nat.not_le.mp (fun h => c_3 ((nI_leI (a := 6) (by omega) (by omega)).mpr h))
          have hsn : (snV laws fogs arms stp (faiths (ix goer)) (places (ix goer)) (moved (ix goer))) k ≤ 61 ∧ 0 ≤ (snV laws fogs arms stp (faiths (ix goer)) (places (ix goer)) (moved (ix goer))) k := snR_k _ 61 0 rfl
          refine lv_aload_n hx hb dX11_kindFor_36 rfl (lv_at hl 3 rfl) ?_
          refine lv_iload_n hx hb dX11_kindFor_37 rfl (lv_at hl 4 rfl) ?_
          refine lv_tope (y := nI (ix goer)) hg.1 ?_
          refine lv_iconst (v := 0) hx hb dX11_kindFor_38 (by decide) ?_
          refine lv_iload hx hb dX11_kindFor_39 (lv_at hl 0 rfl) ?_
          refine mcV hf hk hst hw (c_X11_puts0 l g oh os ok ol ord odd otp olt orw oso osz oit oho ohe otr stp laws z cnt fogs arms kinds faiths places moved isk tpd oat obg otk ovl rmn tcd own_ opt (ix goer) (nI k) (by omega)) (cwV 3 hts gX11_kindFor_X11_puts rfl rfl rfl hdV_X11_puts ⟨Nat.le_of_ble_eq_true rfl, Nat.le_of_ble_eq_true rfl⟩) [0, 1] rfl rfl 0 rfl rfl rfl hl.1 rfl (Nat.le_of_ble_eq_true rfl) dX11_kindFor_41 ⟨Nat.zero_le _, Nat.zero_le _⟩ (W' := [cob oh 11 [.ref os, .ref ok, .ref ol, .ref ord, .int isk, .ref odd, .ref otp, .int (nI tpd), .ref olt, .int oat, .int obg, .int otk, .int ovl, .ref orw, .int (nI rmn), .ref oso, .ref osz, .ref oit, .ref oho, .ref ohe, .ref otr, .int (nI tcd), .int own_, .int opt], cin g os 51 (mR stp laws z cnt fogs arms (upd kinds (ix goer) (nI k)) faiths places moved), cin g ol 51 (mR stp laws z cnt fogs arms kinds faiths places moved), cin g odd 8 de]) rfl (fun H locs hw => ?_)
          refine lv_aload_n hx hb dX11_kindFor_44 rfl (lv_at hl 3 rfl) ?_
          refine lv_iload_n hx hb dX11_kindFor_45 rfl (lv_at hl 4 rfl) ?_
          refine lv_tope (y := nI (ix goer)) hg.1 ?_
          refine mcVF hf hk hst hw (c_X11_comesBy l g oh os ok ol ord odd otp olt orw oso osz oit oho ohe otr stp laws z cnt fogs arms (upd kinds (ix goer) (nI k)) faiths places moved isk tpd oat obg otk ovl rmn tcd own_ opt (mR stp laws z cnt fogs arms kinds faiths places moved) de (ix goer) (by omega) (by omega) (by assumption) (by assumption) (hg2)) (cwV 1 hts gX11_kindFor_X11_comesBy rfl rfl rfl hdV_X11_comesBy ⟨Nat.le_of_ble_eq_true rfl, Nat.le_of_ble_eq_true rfl⟩) 0 rfl rfl rfl hl.1 rfl (Nat.le_of_ble_eq_true rfl) dX11_kindFor_46 ⟨Nat.zero_le _, Nat.zero_le _⟩ (fun rv ws2 hPo H locs hw => ?_)
          obtain ⟨rfl, u4_j0, u4_j1, rfl⟩ := hPo
          refine lv_tope (y := cbF ((snV laws fogs arms stp (faiths (ix goer)) (places (ix goer)) (moved (ix goer))) k)) (by rw [pk_us]; rfl) ?_
          refine lv_istore (lv' := [(5, .int (cbF ((snV laws fogs arms stp (faiths (ix goer)) (places (ix goer)) (moved (ix goer))) k))), (4, .int (nI k)), (3, .int ((kmB (snV laws fogs arms stp (faiths (ix goer)) (places (ix goer)) (moved (ix goer))) k).2)), (2, .int ((kmB (snV laws fogs arms stp (faiths (ix goer)) (places (ix goer)) (moved (ix goer))) k).1)), (0, .ref oh), (1, .int goer)]) hx hb dX11_kindFor_49 hl (by decide) rfl (fun ls hl => ?_)
          refine lv_aload_n hx hb dX11_kindFor_51 rfl (lv_at hl 4 rfl) ?_
          refine rg hf hk hw hinX11 0 rfl rfl 2 (by decide) w_1 rfl dX11_kindFor_52 ?_
          refine lv_aload_n hx hb dX11_kindFor_55 rfl (lv_at hl 4 rfl) ?_
          refine rg hf hk hw hinX11 0 rfl rfl 0 (by decide) w_0 rfl dX11_kindFor_56 ?_
          refine mcS hf hk hst hw (c_X11_copies l g ol os (mR stp laws z cnt fogs arms kinds faiths places moved) u4_j0) (va_cwS 2 hts gX11_kindFor_X11_copies rfl rfl rfl hdS_X11_copies ⟨Nat.le_of_ble_eq_true rfl, Nat.le_of_ble_eq_true rfl⟩) [2, 1] rfl rfl rfl hl.1 rfl (Nat.le_of_ble_eq_true rfl) dX11_kindFor_59 ⟨Nat.zero_le _, Nat.zero_le _⟩ (W' := [cob oh 11 [.ref os, .ref ok, .ref ol, .ref ord, .int isk, .ref odd, .ref otp, .int (nI tpd), .ref olt, .int oat, .int obg, .int otk, .int ovl, .ref orw, .int (nI rmn), .ref oso, .ref osz, .ref oit, .ref oho, .ref ohe, .ref otr, .int (nI tcd), .int own_, .int opt], cin g os 51 (mR stp laws z cnt fogs arms kinds faiths places moved), cin g ol 51 (mR stp laws z cnt fogs arms kinds faiths places moved), cin g odd 8 u4_j1]) rfl (fun H locs hw => ?_)
          refine lv_iload hx hb dX11_kindFor_62 (lv_at hl 0 rfl) ?_
          refine lv_if_ge (tgt := 72) hx hb dX11_kindFor_64 (by decide) (fun c_5 => ?_) (fun c_5 => ?_)
          · have hc_ := c_5
            refine lv_iload hx hb dX11_kindFor_72 (lv_at hl 0 rfl) ?_
            refine lv_tope (y := (snV laws fogs arms stp (faiths (ix goer)) (places (ix goer)) (moved (ix goer))) k) (cb_pos hsn hc_) ?_
            refine lv_istore (lv' := [(5, .int ((snV laws fogs arms stp (faiths (ix goer)) (places (ix goer)) (moved (ix goer))) k)), (4, .int (nI k)), (3, .int ((kmB (snV laws fogs arms stp (faiths (ix goer)) (places (ix goer)) (moved (ix goer))) k).2)), (2, .int ((kmB (snV laws fogs arms stp (faiths (ix goer)) (places (ix goer)) (moved (ix goer))) k).1)), (0, .ref oh), (1, .int goer)]) hx hb dX11_kindFor_74 hl (by decide) rfl (fun ls hl => ?_)
            refine lv_iload hx hb dX11_kindFor_76 (lv_at hl 0 rfl) ?_
            refine lv_iload_n hx hb dX11_kindFor_78 rfl (lv_at hl 2 rfl) ?_
            refine lv_icmp_ge (tgt := 87) hx hb dX11_kindFor_79 (by decide) (fun c_6 => ?_) (fun c_6 => ?_)
            · refine lv_iload_n hx hb dX11_kindFor_87 rfl (lv_at hl 3 rfl) ?_
              refine lv_istore_n (lv' := [(2, .int ((kmB (snV laws fogs arms stp (faiths (ix goer)) (places (ix goer)) (moved (ix goer))) k).1)), (5, .int ((snV laws fogs arms stp (faiths (ix goer)) (places (ix goer)) (moved (ix goer))) k)), (4, .int (nI k)), (3, .int ((kmB (snV laws fogs arms stp (faiths (ix goer)) (places (ix goer)) (moved (ix goer))) k).2)), (0, .ref oh), (1, .int goer)]) hx hb dX11_kindFor_88 rfl hl (by decide) rfl (fun ls hl => ?_)
              refine lv_iload hx hb dX11_kindFor_89 (lv_at hl 1 rfl) ?_
              refine lv_iload_n hx hb dX11_kindFor_91 rfl (lv_at hl 3 rfl) ?_
              refine lv_icmp_ge (tgt := 100) hx hb dX11_kindFor_92 (by decide) (fun _ => ?_) (fun q => absurd (c_6) q)
              refine lv_iload_n hx hb dX11_kindFor_100 rfl (lv_at hl 3 rfl) ?_
              refine lv_istore_n (lv' := [(3, .int ((kmB (snV laws fogs arms stp (faiths (ix goer)) (places (ix goer)) (moved (ix goer))) k).2)), (2, .int ((kmB (snV laws fogs arms stp (faiths (ix goer)) (places (ix goer)) (moved (ix goer))) k).1)), (5, .int ((snV laws fogs arms stp (faiths (ix goer)) (places (ix goer)) (moved (ix goer))) k)), (4, .int (nI k)), (0, .ref oh), (1, .int goer)]) hx hb dX11_kindFor_101 rfl hl (by decide) rfl (fun ls hl => ?_)
              refine lv_iinc (v := nI (k + 1)) (lv' := [(4, .int (nI (k + 1))), (3, .int ((kmB (snV laws fogs arms stp (faiths (ix goer)) (places (ix goer)) (moved (ix goer))) k).2)), (2, .int ((kmB (snV laws fogs arms stp (faiths (ix goer)) (places (ix goer)) (moved (ix goer))) k).1)), (5, .int ((snV laws fogs arms stp (faiths (ix goer)) (places (ix goer)) (moved (ix goer))) k)), (0, .ref oh), (1, .int goer)]) hx hb dX11_kindFor_102 hl (k := 3) rfl (nI_1 _) (by decide) rfl (fun ls hl => ?_)
              refine lv_goto (tgt := 29) hx hb dX11_kindFor_105 (by decide) ?_
              have e_1 : (kmB (snV laws fogs arms stp (faiths (ix goer)) (places (ix goer)) (moved (ix goer))) k).2 = (kmB (snV laws fogs arms stp (faiths (ix goer)) (places (ix goer)) (moved (ix goer))) (k + 1)).2 := (congrArg Prod.snd (if_pos (show (kmB (snV laws fogs arms stp (faiths (ix goer)) (places (ix goer)) (moved (ix goer))) k).2 ≤ (snV laws fogs arms stp (faiths (ix goer)) (places (ix goer)) (moved (ix goer))) k from c_6) : (if (kmB (snV laws fogs arms stp (faiths (ix goer)) (places (ix goer)) (moved (ix goer))) k).2 ≤ (snV laws fogs arms stp (faiths (ix goer)) (places (ix goer)) (moved (ix goer))) k then kmB (snV laws fogs arms stp (faiths (ix goer)) (places (ix goer)) (moved (ix goer))) k else (nI k, (snV laws fogs arms stp (faiths (ix goer)) (places (ix goer)) (moved (ix goer))) k)) = _)).symm
              rw [e_1] at hl
              have e_2 : (kmB (snV laws fogs arms stp (faiths (ix goer)) (places (ix goer)) (moved (ix goer))) k).1 = (kmB (snV laws fogs arms stp (faiths (ix goer)) (places (ix goer)) (moved (ix goer))) (k + 1)).1 := (congrArg Prod.fst (if_pos (show (kmB (snV laws fogs arms stp (faiths (ix goer)) (places (ix goer)) (moved (ix goer))) k).2 ≤ (snV laws fogs arms stp (faiths (ix goer)) (places (ix goer)) (moved (ix goer))) k from c_6) : (if (kmB (snV laws fogs arms stp (faiths (ix goer)) (places (ix goer)) (moved (ix goer))) k).2 ≤ (snV laws fogs arms stp (faiths (ix goer)) (places (ix goer)) (moved (ix goer))) k then kmB (snV laws fogs arms stp (faiths (ix goer)) (places (ix goer)) (moved (ix goer))) k else (nI k, (snV laws fogs arms stp (faiths (ix goer)) (places (ix goer)) (moved (ix goer))) k)) = _)).symm
              rw [e_2] at hl
              exact ih_29 (k + 1) u4_j1 (by omega) (by omega) _ _ hw _ (lv_sub hl [0, 1, 2, 4, 5] rfl)
            · refine lv_iload hx hb dX11_kindFor_82 (lv_at hl 1 rfl) ?_
              refine lv_goto (tgt := 88) hx hb dX11_kindFor_84 (by decide) ?_
              refine lv_istore_n (lv' := [(2, .int (nI k)), (5, .int ((snV laws fogs arms stp (faiths (ix goer)) (places (ix goer)) (moved (ix goer))) k)), (4, .int (nI k)), (3, .int ((kmB (snV laws fogs arms stp (faiths (ix goer)) (places (ix goer)) (moved (ix goer))) k).2)), (0, .ref oh), (1, .int goer)]) hx hb dX11_kindFor_88 rfl hl (by decide) rfl (fun ls hl => ?_)
              refine lv_iload hx hb dX11_kindFor_89 (lv_at hl 1 rfl) ?_
              refine lv_iload_n hx hb dX11_kindFor_91 rfl (lv_at hl 3 rfl) ?_
              refine lv_icmp_ge (tgt := 100) hx hb dX11_kindFor_92 (by decide) (fun q => absurd q (c_6)) (fun _ => ?_)
              refine lv_iload hx hb dX11_kindFor_95 (lv_at hl 1 rfl) ?_
              refine lv_goto (tgt := 101) hx hb dX11_kindFor_97 (by decide) ?_
              refine lv_istore_n (lv' := [(3, .int ((snV laws fogs arms stp (faiths (ix goer)) (places (ix goer)) (moved (ix goer))) k)), (2, .int (nI k)), (5, .int ((snV laws fogs arms stp (faiths (ix goer)) (places (ix goer)) (moved (ix goer))) k)), (4, .int (nI k)), (0, .ref oh), (1, .int goer)]) hx hb dX11_kindFor_101 rfl hl (by decide) rfl (fun ls hl => ?_)
              refine lv_iinc (v := nI (k + 1)) (lv' := [(4, .int (nI (k + 1))), (3, .int ((snV laws fogs arms stp (faiths (ix goer)) (places (ix goer)) (moved (ix goer))) k)), (2, .int (nI k)), (5, .int ((snV laws fogs arms stp (faiths (ix goer)) (places (ix goer)) (moved (ix goer))) k)), (0, .ref oh), (1, .int goer)]) hx hb dX11_kindFor_102 hl (k := 3) rfl (nI_1 _) (by decide) rfl (fun ls hl => ?_)
              refine lv_goto (tgt := 29) hx hb dX11_kindFor_105 (by decide) ?_
              have e_1 : (snV laws fogs arms stp (faiths (ix goer)) (places (ix goer)) (moved (ix goer))) k = (kmB (snV laws fogs arms stp (faiths (ix goer)) (places (ix goer)) (moved (ix goer))) (k + 1)).2 := (congrArg Prod.snd (if_neg (show ¬ (kmB (snV laws fogs arms stp (faiths (ix goer)) (places (ix goer)) (moved (ix goer))) k).2 ≤ (snV laws fogs arms stp (faiths (ix goer)) (places (ix goer)) (moved (ix goer))) k from c_6) : (if (kmB (snV laws fogs arms stp (faiths (ix goer)) (places (ix goer)) (moved (ix goer))) k).2 ≤ (snV laws fogs arms stp (faiths (ix goer)) (places (ix goer)) (moved (ix goer))) k then kmB (snV laws fogs arms stp (faiths (ix goer)) (places (ix goer)) (moved (ix goer))) k else (nI k, (snV laws fogs arms stp (faiths (ix goer)) (places (ix goer)) (moved (ix goer))) k)) = _)).symm
              rw [e_1] at hl
              have e_2 : nI k = (kmB (snV laws fogs arms stp (faiths (ix goer)) (places (ix goer)) (moved (ix goer))) (k + 1)).1 := (congrArg Prod.fst (if_neg (show ¬ (kmB (snV laws fogs arms stp (faiths (ix goer)) (places (ix goer)) (moved (ix goer))) k).2 ≤ (snV laws fogs arms stp (faiths (ix goer)) (places (ix goer)) (moved (ix goer))) k from c_6) : (if (kmB (snV laws fogs arms stp (faiths (ix goer)) (places (ix goer)) (moved (ix goer))) k).2 ≤ (snV laws fogs arms stp (faiths (ix goer)) (places (ix goer)) (moved (ix goer))) k then kmB (snV laws fogs arms stp (faiths (ix goer)) (places (ix goer)) (moved (ix goer))) k else (nI k, (snV laws fogs arms stp (faiths (ix goer)) (places (ix goer)) (moved (ix goer))) k)) = _)).symm
              rw [e_2] at hl
              exact ih_29 (k + 1) u4_j1 (by omega) (by omega) _ _ hw _ (lv_sub hl [0, 1, 2, 4, 5] rfl)
          · have hc_ := c_5
            refine lv_bipush (v := 61) hx hb dX11_kindFor_67 (by decide) ?_
            refine lv_tope (y := (snV laws fogs arms stp (faiths (ix goer)) (places (ix goer)) (moved (ix goer))) k) (cb_neg hsn hc_) ?_
            refine lv_goto (tgt := 74) hx hb dX11_kindFor_69 (by decide) ?_
            refine lv_istore (lv' := [(5, .int ((snV laws fogs arms stp (faiths (ix goer)) (places (ix goer)) (moved (ix goer))) k)), (4, .int (nI k)), (3, .int ((kmB (snV laws fogs arms stp (faiths (ix goer)) (places (ix goer)) (moved (ix goer))) k).2)), (2, .int ((kmB (snV laws fogs arms stp (faiths (ix goer)) (places (ix goer)) (moved (ix goer))) k).1)), (0, .ref oh), (1, .int goer)]) hx hb dX11_kindFor_74 hl (by decide) rfl (fun ls hl => ?_)
            refine lv_iload hx hb dX11_kindFor_76 (lv_at hl 0 rfl) ?_
            refine lv_iload_n hx hb dX11_kindFor_78 rfl (lv_at hl 2 rfl) ?_
            refine lv_icmp_ge (tgt := 87) hx hb dX11_kindFor_79 (by decide) (fun c_7 => ?_) (fun c_7 => ?_)
            · refine lv_iload_n hx hb dX11_kindFor_87 rfl (lv_at hl 3 rfl) ?_
              refine lv_istore_n (lv' := [(2, .int ((kmB (snV laws fogs arms stp (faiths (ix goer)) (places (ix goer)) (moved (ix goer))) k).1)), (5, .int ((snV laws fogs arms stp (faiths (ix goer)) (places (ix goer)) (moved (ix goer))) k)), (4, .int (nI k)), (3, .int ((kmB (snV laws fogs arms stp (faiths (ix goer)) (places (ix goer)) (moved (ix goer))) k).2)), (0, .ref oh), (1, .int goer)]) hx hb dX11_kindFor_88 rfl hl (by decide) rfl (fun ls hl => ?_)
              refine lv_iload hx hb dX11_kindFor_89 (lv_at hl 1 rfl) ?_
              refine lv_iload_n hx hb dX11_kindFor_91 rfl (lv_at hl 3 rfl) ?_
              refine lv_icmp_ge (tgt := 100) hx hb dX11_kindFor_92 (by decide) (fun _ => ?_) (fun q => absurd (c_7) q)
              refine lv_iload_n hx hb dX11_kindFor_100 rfl (lv_at hl 3 rfl) ?_
              refine lv_istore_n (lv' := [(3, .int ((kmB (snV laws fogs arms stp (faiths (ix goer)) (places (ix goer)) (moved (ix goer))) k).2)), (2, .int ((kmB (snV laws fogs arms stp (faiths (ix goer)) (places (ix goer)) (moved (ix goer))) k).1)), (5, .int ((snV laws fogs arms stp (faiths (ix goer)) (places (ix goer)) (moved (ix goer))) k)), (4, .int (nI k)), (0, .ref oh), (1, .int goer)]) hx hb dX11_kindFor_101 rfl hl (by decide) rfl (fun ls hl => ?_)
              refine lv_iinc (v := nI (k + 1)) (lv' := [(4, .int (nI (k + 1))), (3, .int ((kmB (snV laws fogs arms stp (faiths (ix goer)) (places (ix goer)) (moved (ix goer))) k).2)), (2, .int ((kmB (snV laws fogs arms stp (faiths (ix goer)) (places (ix goer)) (moved (ix goer))) k).1)), (5, .int ((snV laws fogs arms stp (faiths (ix goer)) (places (ix goer)) (moved (ix goer))) k)), (0, .ref oh), (1, .int goer)]) hx hb dX11_kindFor_102 hl (k := 3) rfl (nI_1 _) (by decide) rfl (fun ls hl => ?_)
              refine lv_goto (tgt := 29) hx hb dX11_kindFor_105 (by decide) ?_
              have e_1 : (kmB (snV laws fogs arms stp (faiths (ix goer)) (places (ix goer)) (moved (ix goer))) k).2 = (kmB (snV laws fogs arms stp (faiths (ix goer)) (places (ix goer)) (moved (ix goer))) (k + 1)).2 := (congrArg Prod.snd (if_pos (show (kmB (snV laws fogs arms stp (faiths (ix goer)) (places (ix goer)) (moved (ix goer))) k).2 ≤ (snV laws fogs arms stp (faiths (ix goer)) (places (ix goer)) (moved (ix goer))) k from c_7) : (if (kmB (snV laws fogs arms stp (faiths (ix goer)) (places (ix goer)) (moved (ix goer))) k).2 ≤ (snV laws fogs arms stp (faiths (ix goer)) (places (ix goer)) (moved (ix goer))) k then kmB (snV laws fogs arms stp (faiths (ix goer)) (places (ix goer)) (moved (ix goer))) k else (nI k, (snV laws fogs arms stp (faiths (ix goer)) (places (ix goer)) (moved (ix goer))) k)) = _)).symm
              rw [e_1] at hl
              have e_2 : (kmB (snV laws fogs arms stp (faiths (ix goer)) (places (ix goer)) (moved (ix goer))) k).1 = (kmB (snV laws fogs arms stp (faiths (ix goer)) (places (ix goer)) (moved (ix goer))) (k + 1)).1 := (congrArg Prod.fst (if_pos (show (kmB (snV laws fogs arms stp (faiths (ix goer)) (places (ix goer)) (moved (ix goer))) k).2 ≤ (snV laws fogs arms stp (faiths (ix goer)) (places (ix goer)) (moved (ix goer))) k from c_7) : (if (kmB (snV laws fogs arms stp (faiths (ix goer)) (places (ix goer)) (moved (ix goer))) k).2 ≤ (snV laws fogs arms stp (faiths (ix goer)) (places (ix goer)) (moved (ix goer))) k then kmB (snV laws fogs arms stp (faiths (ix goer)) (places (ix goer)) (moved (ix goer))) k else (nI k, (snV laws fogs arms stp (faiths (ix goer)) (places (ix goer)) (moved (ix goer))) k)) = _)).symm
              rw [e_2] at hl
              exact ih_29 (k + 1) u4_j1 (by omega) (by omega) _ _ hw _ (lv_sub hl [0, 1, 2, 4, 5] rfl)
            · refine lv_iload hx hb dX11_kindFor_82 (lv_at hl 1 rfl) ?_
              refine lv_goto (tgt := 88) hx hb dX11_kindFor_84 (by decide) ?_
              refine lv_istore_n (lv' := [(2, .int (nI k)), (5, .int ((snV laws fogs arms stp (faiths (ix goer)) (places (ix goer)) (moved (ix goer))) k)), (4, .int (nI k)), (3, .int ((kmB (snV laws fogs arms stp (faiths (ix goer)) (places (ix goer)) (moved (ix goer))) k).2)), (0, .ref oh), (1, .int goer)]) hx hb dX11_kindFor_88 rfl hl (by decide) rfl (fun ls hl => ?_)
              refine lv_iload hx hb dX11_kindFor_89 (lv_at hl 1 rfl) ?_
              refine lv_iload_n hx hb dX11_kindFor_91 rfl (lv_at hl 3 rfl) ?_
              refine lv_icmp_ge (tgt := 100) hx hb dX11_kindFor_92 (by decide) (fun q => absurd q (c_7)) (fun _ => ?_)
              refine lv_iload hx hb dX11_kindFor_95 (lv_at hl 1 rfl) ?_
              refine lv_goto (tgt := 101) hx hb dX11_kindFor_97 (by decide) ?_
              refine lv_istore_n (lv' := [(3, .int ((snV laws fogs arms stp (faiths (ix goer)) (places (ix goer)) (moved (ix goer))) k)), (2, .int (nI k)), (5, .int ((snV laws fogs arms stp (faiths (ix goer)) (places (ix goer)) (moved (ix goer))) k)), (4, .int (nI k)), (0, .ref oh), (1, .int goer)]) hx hb dX11_kindFor_101 rfl hl (by decide) rfl (fun ls hl => ?_)
              refine lv_iinc (v := nI (k + 1)) (lv' := [(4, .int (nI (k + 1))), (3, .int ((snV laws fogs arms stp (faiths (ix goer)) (places (ix goer)) (moved (ix goer))) k)), (2, .int (nI k)), (5, .int ((snV laws fogs arms stp (faiths (ix goer)) (places (ix goer)) (moved (ix goer))) k)), (0, .ref oh), (1, .int goer)]) hx hb dX11_kindFor_102 hl (k := 3) rfl (nI_1 _) (by decide) rfl (fun ls hl => ?_)
              refine lv_goto (tgt := 29) hx hb dX11_kindFor_105 (by decide) ?_
              have e_1 : (snV laws fogs arms stp (faiths (ix goer)) (places (ix goer)) (moved (ix goer))) k = (kmB (snV laws fogs arms stp (faiths (ix goer)) (places (ix goer)) (moved (ix goer))) (k + 1)).2 := (congrArg Prod.snd (if_neg (show ¬ (kmB (snV laws fogs arms stp (faiths (ix goer)) (places (ix goer)) (moved (ix goer))) k).2 ≤ (snV laws fogs arms stp (faiths (ix goer)) (places (ix goer)) (moved (ix goer))) k from c_7) : (if (kmB (snV laws fogs arms stp (faiths (ix goer)) (places (ix goer)) (moved (ix goer))) k).2 ≤ (snV laws fogs arms stp (faiths (ix goer)) (places (ix goer)) (moved (ix goer))) k then kmB (snV laws fogs arms stp (faiths (ix goer)) (places (ix goer)) (moved (ix goer))) k else (nI k, (snV laws fogs arms stp (faiths (ix goer)) (places (ix goer)) (moved (ix goer))) k)) = _)).symm
              rw [e_1] at hl
              have e_2 : nI k = (kmB (snV laws fogs arms stp (faiths (ix goer)) (places (ix goer)) (moved (ix goer))) (k + 1)).1 := (congrArg Prod.fst (if_neg (show ¬ (kmB (snV laws fogs arms stp (faiths (ix goer)) (places (ix goer)) (moved (ix goer))) k).2 ≤ (snV laws fogs arms stp (faiths (ix goer)) (places (ix goer)) (moved (ix goer))) k from c_7) : (if (kmB (snV laws fogs arms stp (faiths (ix goer)) (places (ix goer)) (moved (ix goer))) k).2 ≤ (snV laws fogs arms stp (faiths (ix goer)) (places (ix goer)) (moved (ix goer))) k then kmB (snV laws fogs arms stp (faiths (ix goer)) (places (ix goer)) (moved (ix goer))) k else (nI k, (snV laws fogs arms stp (faiths (ix goer)) (places (ix goer)) (moved (ix goer))) k)) = _)).symm
              rw [e_2] at hl
              exact ih_29 (k + 1) u4_j1 (by omega) (by omega) _ _ hw _ (lv_sub hl [0, 1, 2, 4, 5] rfl)
    exact lp_29_1 (6 + 1) 0 dd (by omega) (by omega) _ _ hw _ (lv_sub hl [0, 1, 2, 3, 4] rfl)
  · refine lv_iconst (v := (-1)) hx hb dX11_kindFor_8 (by decide) ?_
    exact rE_i hf hr hlk hw ⟨congrArg some (by simp only [if_pos c_1]), _, _, rfl⟩ (show ([oh, os, ol, odd] : List Nat) = [oh, os, ol, odd] from rfl) dX11_kindFor_9
abbrev rmX11_luck : Room := { frames := 7, cells := 0, slots := 0, locals := 153 }
set_option maxHeartbeats 4000000 in
set_option maxRecDepth 100000 in
theorem c_X11_luck (l : Launch) (g : GG) (oh : Nat) (os : Nat) (ok : Nat) (ol : Nat) (ord : Nat) (odd : Nat) (otp : Nat) (olt : Nat) (orw : Nat) (oso : Nat) (osz : Nat) (oit : Nat) (oho : Nat) (ohe : Nat) (otr : Nat) (stp : Nat) (laws : Nat → Int32) (z : Int32) (cnt : Nat) (fogs : Nat → Int32) (arms : Nat → Int32) (kinds : Nat → Int32) (faiths : Nat → Int32) (places : Nat → Int32) (moved : Nat → Int32) (isk : Int32) (tpd : Nat) (oat : Int32) (obg : Int32) (otk : Int32) (ovl : Int32) (rmn : Nat) (tcd : Nat) (own_ : Int32) (opt : Int32) (lr : Nat → Int32) (dd : Nat → Int32) (n : Int32) (hc8 : cnt ≤ 8) (hsp : stp < 2 ^ 29) (hpl : ∀ j, j < cnt → plOk (places j)) (hmo_ : ∀ j, j < cnt → moOk (moved j)) : mtR l g yX11_luck wsX11_luck rmX11_luck [.ref oh, .int n] [cob oh 11 [.ref os, .ref ok, .ref ol, .ref ord, .int isk, .ref odd, .ref otp, .int (nI tpd), .ref olt, .int oat, .int obg, .int otk, .int ovl, .ref orw, .int (nI rmn), .ref oso, .ref osz, .ref oit, .ref oho, .ref ohe, .ref otr, .int (nI tcd), .int own_, .int opt], cin g os 51 (mR stp laws z cnt fogs arms kinds faiths places moved), cin g ol 51 lr, cin g odd 8 dd] (fun rv W => rv = (some (.int (if f_X10_isOutside n 1 30 = 0 then (lkS laws fogs arms stp kinds faiths places cnt z (ix n)).1 else -1))) ∧ ∃ (j0 : Nat → Int32) (j1 : Nat → Int32), W = [cob oh 11 [.ref os, .ref ok, .ref ol, .ref ord, .int isk, .ref odd, .ref otp, .int (nI tpd), .ref olt, .int oat, .int obg, .int otk, .int ovl, .ref orw, .int (nI rmn), .ref oso, .ref osz, .ref oit, .ref oho, .ref ohe, .ref otr, .int (nI tcd), .int own_, .int opt], cin g os 51 (mR stp laws z cnt fogs arms kinds faiths places moved), cin g ol 51 j0, cin g odd 8 j1]) := by
  refine mtR.of (cc := cX11_luck) (nL := 6) (ret := (some .int)) (own := RX11) (by decide +kernel) rfl rfl (Nat.le_of_ble_eq_true rfl) (fun p e s m below meth c hf hr hlk _ hk hst hw ls hl => ?_)
  have hx := hf.1
  have hb := hf.2.1
  have hts := hf.2.2.2.2
  have hl : lv_has ls 6 [(0, .ref oh), (1, .int n)] := hl
  have hinX11 : ∀ w ∈ u_ws RX11 TX11 24, w ∈ wsX11_luck := fun w h => List.mem_cons_of_mem _ (List.mem_append_right _ h)
  have w_0 : Cond.fieldLink RX11 9 "LightManModel" "s" "[I" ∈ wsX11_luck := List.mem_of_getElem? (i := 1) rfl
  have w_1 : Cond.fieldLink RX11 16 "LightManModel" "laid" "[I" ∈ wsX11_luck := List.mem_of_getElem? (i := 2) rfl
  refine lv_iload_n hx hb dX11_luck_0 rfl (lv_at hl 1 rfl) ?_
  refine lv_iconst (v := 1) hx hb dX11_luck_1 (by decide) ?_
  refine lv_bipush (v := 30) hx hb dX11_luck_2 (by decide) ?_
  refine mcS hf hk hst hw (c_X11_in1 l g n 1 30) (va_cwS 3 hts gX11_luck_X11_in1 rfl rfl rfl hdS_X11_in1 ⟨Nat.le_of_ble_eq_true rfl, Nat.le_of_ble_eq_true rfl⟩) [] rfl rfl rfl hl.1 rfl (Nat.le_of_ble_eq_true rfl) dX11_luck_4 ⟨Nat.zero_le _, Nat.zero_le _⟩ (W' := [cob oh 11 [.ref os, .ref ok, .ref ol, .ref ord, .int isk, .ref odd, .ref otp, .int (nI tpd), .ref olt, .int oat, .int obg, .int otk, .int ovl, .ref orw, .int (nI rmn), .ref oso, .ref osz, .ref oit, .ref oho, .ref ohe, .ref otr, .int (nI tcd), .int own_, .int opt], cin g os 51 (mR stp laws z cnt fogs arms kinds faiths places moved), cin g ol 51 lr, cin g odd 8 dd]) rfl (fun H locs hw => ?_)
  refine lv_if_ne (tgt := 12) hx hb dX11_luck_7 (by decide) (fun c_1 => ?_) (fun c_1 => ?_)
  · have hn := out_n1 (M := 1) (N := 30) (by decide) (by decide) (nO_1 c_1)
    have hn2 := hn.2.1
    have hn3 := hn.2.2
    refine lv_aload_n hx hb dX11_luck_12 rfl (lv_at hl 0 rfl) ?_
    refine rg hf hk hw hinX11 0 rfl rfl 0 (by decide) w_0 rfl dX11_luck_13 ?_
    refine lv_aload_n hx hb dX11_luck_16 rfl (lv_at hl 0 rfl) ?_
    refine rg hf hk hw hinX11 0 rfl rfl 2 (by decide) w_1 rfl dX11_luck_17 ?_
    refine mcS hf hk hst hw (c_X11_copies l g os ol (mR stp laws z cnt fogs arms kinds faiths places moved) lr) (va_cwS 2 hts gX11_luck_X11_copies rfl rfl rfl hdS_X11_copies ⟨Nat.le_of_ble_eq_true rfl, Nat.le_of_ble_eq_true rfl⟩) [1, 2] rfl rfl rfl hl.1 rfl (Nat.le_of_ble_eq_true rfl) dX11_luck_20 ⟨Nat.zero_le _, Nat.zero_le _⟩ (W' := [cob oh 11 [.ref os, .ref ok, .ref ol, .ref ord, .int isk, .ref odd, .ref otp, .int (nI tpd), .ref olt, .int oat, .int obg, .int otk, .int ovl, .ref orw, .int (nI rmn), .ref oso, .ref osz, .ref oit, .ref oho, .ref ohe, .ref otr, .int (nI tcd), .int own_, .int opt], cin g os 51 (mR stp laws z cnt fogs arms kinds faiths places moved), cin g ol 51 (mR stp laws z cnt fogs arms kinds faiths places moved), cin g odd 8 dd]) rfl (fun H locs hw => ?_)
    refine lv_aload_n hx hb dX11_luck_23 rfl (lv_at hl 0 rfl) ?_
    refine mcV hf hk hst hw (c_X11_step1 l g oh os ok ol ord odd otp olt orw oso osz oit oho ohe otr stp laws z cnt fogs arms kinds faiths places moved isk tpd oat obg otk ovl rmn tcd own_ opt dd (by omega) (by omega) (by assumption) (by assumption)) (cwV 0 hts gX11_luck_X11_step1 rfl rfl rfl hdV_X11_step1 ⟨Nat.le_of_ble_eq_true rfl, Nat.le_of_ble_eq_true rfl⟩) [0, 1, 3] rfl rfl 0 rfl rfl rfl hl.1 rfl (Nat.le_of_ble_eq_true rfl) dX11_luck_24 ⟨Nat.zero_le _, Nat.zero_le _⟩ (W' := [cob oh 11 [.ref os, .ref ok, .ref ol, .ref ord, .int isk, .ref odd, .ref otp, .int (nI tpd), .ref olt, .int oat, .int obg, .int otk, .int ovl, .ref orw, .int (nI rmn), .ref oso, .ref osz, .ref oit, .ref oho, .ref ohe, .ref otr, .int (nI tcd), .int own_, .int opt], cin g os 51 (mR (stp + 1) laws z cnt fogs arms kinds (goF laws fogs arms stp kinds faiths places cnt) (goP laws fogs arms stp kinds faiths places cnt) (goM laws fogs arms stp kinds places moved cnt)), cin g ol 51 (mR stp laws z cnt fogs arms kinds faiths places moved), cin g odd 8 (goE laws fogs arms stp kinds faiths places dd cnt)]) rfl (fun H locs hw => ?_)
    refine lv_aload_n hx hb dX11_luck_27 rfl (lv_at hl 0 rfl) ?_
    refine lv_iconst (v := 2) hx hb dX11_luck_28 (by decide) ?_
    refine mcV hf hk hst hw (c_X11_sumOf2 l g oh os ok ol ord odd otp olt orw oso osz oit oho ohe otr (stp + 1) laws z cnt fogs arms kinds (goF laws fogs arms stp kinds faiths places cnt) (goP laws fogs arms stp kinds faiths places cnt) (goM laws fogs arms stp kinds places moved cnt) isk tpd oat obg otk ovl rmn tcd own_ opt (by omega)) (cwV 1 hts gX11_luck_X11_sumOf rfl rfl rfl hdV_X11_sumOf ⟨Nat.le_of_ble_eq_true rfl, Nat.le_of_ble_eq_true rfl⟩) [0, 1] rfl rfl 0 rfl rfl rfl hl.1 rfl (Nat.le_of_ble_eq_true rfl) dX11_luck_29 ⟨Nat.zero_le _, Nat.zero_le _⟩ (W' := [cob oh 11 [.ref os, .ref ok, .ref ol, .ref ord, .int isk, .ref odd, .ref otp, .int (nI tpd), .ref olt, .int oat, .int obg, .int otk, .int ovl, .ref orw, .int (nI rmn), .ref oso, .ref osz, .ref oit, .ref oho, .ref ohe, .ref otr, .int (nI tcd), .int own_, .int opt], cin g os 51 (mR (stp + 1) laws z cnt fogs arms kinds (goF laws fogs arms stp kinds faiths places cnt) (goP laws fogs arms stp kinds faiths places cnt) (goM laws fogs arms stp kinds places moved cnt)), cin g ol 51 (mR stp laws z cnt fogs arms kinds faiths places moved), cin g odd 8 (goE laws fogs arms stp kinds faiths places dd cnt)]) rfl (fun H locs hw => ?_)
    refine lv_istore_n (lv' := [(2, .int (sumTo (goP laws fogs arms stp kinds faiths places cnt) cnt)), (0, .ref oh), (1, .int n)]) hx hb dX11_luck_32 rfl hl (by decide) rfl (fun ls hl => ?_)
    refine lv_aload_n hx hb dX11_luck_33 rfl (lv_at hl 1 rfl) ?_
    refine rg hf hk hw hinX11 0 rfl rfl 2 (by decide) w_1 rfl dX11_luck_34 ?_
    refine lv_aload_n hx hb dX11_luck_37 rfl (lv_at hl 1 rfl) ?_
    refine rg hf hk hw hinX11 0 rfl rfl 0 (by decide) w_0 rfl dX11_luck_38 ?_
    refine mcS hf hk hst hw (c_X11_copies l g ol os (mR stp laws z cnt fogs arms kinds faiths places moved) (mR (stp + 1) laws z cnt fogs arms kinds (goF laws fogs arms stp kinds faiths places cnt) (goP laws fogs arms stp kinds faiths places cnt) (goM laws fogs arms stp kinds places moved cnt))) (va_cwS 2 hts gX11_luck_X11_copies rfl rfl rfl hdS_X11_copies ⟨Nat.le_of_ble_eq_true rfl, Nat.le_of_ble_eq_true rfl⟩) [2, 1] rfl rfl rfl hl.1 rfl (Nat.le_of_ble_eq_true rfl) dX11_luck_41 ⟨Nat.zero_le _, Nat.zero_le _⟩ (W' := [cob oh 11 [.ref os, .ref ok, .ref ol, .ref ord, .int isk, .ref odd, .ref otp, .int (nI tpd), .ref olt, .int oat, .int obg, .int otk, .int ovl, .ref orw, .int (nI rmn), .ref oso, .ref osz, .ref oit, .ref oho, .ref ohe, .ref otr, .int (nI tcd), .int own_, .int opt], cin g os 51 (mR stp laws z cnt fogs arms kinds faiths places moved), cin g ol 51 (mR stp laws z cnt fogs arms kinds faiths places moved), cin g odd 8 (goE laws fogs arms stp kinds faiths places dd cnt)]) rfl (fun H locs hw => ?_)
    refine lv_iconst (v := 0) hx hb dX11_luck_44 (by decide) ?_
    refine lv_istore_n (lv' := [(3, .int 0), (2, .int (sumTo (goP laws fogs arms stp kinds faiths places cnt) cnt)), (0, .ref oh), (1, .int n)]) hx hb dX11_luck_45 rfl hl (by decide) rfl (fun ls hl => ?_)
    refine lv_iconst (v := 0) hx hb dX11_luck_46 (by decide) ?_
    refine lv_istore (lv' := [(4, .int 0), (3, .int 0), (2, .int (sumTo (goP laws fogs arms stp kinds faiths places cnt) cnt)), (0, .ref oh), (1, .int n)]) hx hb dX11_luck_47 hl (by decide) rfl (fun ls hl => ?_)
    have lp_49_1 : ∀ (fu k : Nat) (de : Nat → Int32), k ≤ (ix n) → (ix n) + 1 ≤ k + fu → ∀ (H : Heap) (locs : List Loc), hv g (va_I [cob oh 11 [.ref os, .ref ok, .ref ol, .ref ord, .int isk, .ref odd, .ref otp, .int (nI tpd), .ref olt, .int oat, .int obg, .int otk, .int ovl, .ref orw, .int (nI rmn), .ref oso, .ref osz, .ref oit, .ref oho, .ref ohe, .ref otr, .int (nI tcd), .int own_, .int opt], cin g os 51 (mR stp laws z cnt fogs arms kinds faiths places moved), cin g ol 51 lr, cin g odd 8 dd]) s H locs [cob oh 11 [.ref os, .ref ok, .ref ol, .ref ord, .int isk, .ref odd, .ref otp, .int (nI tpd), .ref olt, .int oat, .int obg, .int otk, .int ovl, .ref orw, .int (nI rmn), .ref oso, .ref osz, .ref oit, .ref oho, .ref ohe, .ref otr, .int (nI tcd), .int own_, .int opt], cin g os 51 (mR stp laws ((lkS laws fogs arms stp kinds faiths places cnt z k).2) cnt fogs arms kinds faiths places moved), cin g ol 51 (mR stp laws z cnt fogs arms kinds faiths places moved), cin g odd 8 de] → ∀ ls : Array Slot, lv_has ls 6 [(4, .int (nI k)), (3, .int ((lkS laws fogs arms stp kinds faiths places cnt z k).1)), (2, .int (sumTo (goP laws fogs arms stp kinds faiths places cnt) cnt)), (0, .ref oh), (1, .int n)] → W p l e rmX11_luck s m ([.ref oh, .int n] : List Value).toArray below meth c H locs 0 0 (MQ below (mtS g [cob oh 11 [.ref os, .ref ok, .ref ol, .ref ord, .int isk, .ref odd, .ref otp, .int (nI tpd), .ref olt, .int oat, .int obg, .int otk, .int ovl, .ref orw, .int (nI rmn), .ref oso, .ref osz, .ref oit, .ref oho, .ref ohe, .ref otr, .int (nI tcd), .int own_, .int opt], cin g os 51 (mR stp laws z cnt fogs arms kinds faiths places moved), cin g ol 51 lr, cin g odd 8 dd] (fun rv W => rv = (some (.int (if f_X10_isOutside n 1 30 = 0 then (lkS laws fogs arms stp kinds faiths places cnt z (ix n)).1 else -1))) ∧ ∃ (j0 : Nat → Int32) (j1 : Nat → Int32), W = [cob oh 11 [.ref os, .ref ok, .ref ol, .ref ord, .int isk, .ref odd, .ref otp, .int (nI tpd), .ref olt, .int oat, .int obg, .int otk, .int ovl, .ref orw, .int (nI rmn), .ref oso, .ref osz, .ref oit, .ref oho, .ref ohe, .ref otr, .int (nI tcd), .int own_, .int opt], cin g os 51 (mR stp laws z cnt fogs arms kinds faiths places moved), cin g ol 51 j0, cin g odd 8 j1])) ([.ref oh, .int n] : List Value).toArray s 0 0 (va_I [cob oh 11 [.ref os, .ref ok, .ref ol, .ref ord, .int isk, .ref odd, .ref otp, .int (nI tpd), .ref olt, .int oat, .int obg, .int otk, .int ovl, .ref orw, .int (nI rmn), .ref oso, .ref osz, .ref oit, .ref oho, .ref ohe, .ref otr, .int (nI tcd), .int own_, .int opt], cin g os 51 (mR stp laws z cnt fogs arms kinds faiths places moved), cin g ol 51 lr, cin g odd 8 dd])) (F0 m 49 ls []) := by
      intro fu
      induction fu with
      | zero =>
        intro k de h1 h2
        exact absurd h2 (by omega)
      | succ fu ih_49 =>
        intro k de hk1_49 hk2_49 H locs hw ls hl
        refine lv_iload hx hb dX11_luck_49 (lv_at hl 0 rfl) ?_
        refine lv_iload_n hx hb dX11_luck_51 rfl (lv_at hl 4 rfl) ?_
        refine lv_tope (y := nI (ix n)) hn.1 ?_
        refine lv_icmp_ge (tgt := 109) hx hb dX11_luck_52 (by decide) (fun c_3 => ?_) (fun c_3 => ?_)
        · have hkE : k = ix n := Nat.le_antisymm hk1_49 ((nI_leI (by omega) (by omega)).mp c_3)
          refine lv_aload_n hx hb dX11_luck_109 rfl (lv_at hl 3 rfl) ?_
          refine rg hf hk hw hinX11 0 rfl rfl 2 (by decide) w_1 rfl dX11_luck_110 ?_
          refine lv_aload_n hx hb dX11_luck_113 rfl (lv_at hl 3 rfl) ?_
          refine rg hf hk hw hinX11 0 rfl rfl 0 (by decide) w_0 rfl dX11_luck_114 ?_
          refine mcS hf hk hst hw (c_X11_copies l g ol os (mR stp laws z cnt fogs arms kinds faiths places moved) (mR stp laws ((lkS laws fogs arms stp kinds faiths places cnt z k).2) cnt fogs arms kinds faiths places moved)) (va_cwS 2 hts gX11_luck_X11_copies rfl rfl rfl hdS_X11_copies ⟨Nat.le_of_ble_eq_true rfl, Nat.le_of_ble_eq_true rfl⟩) [2, 1] rfl rfl rfl hl.1 rfl (Nat.le_of_ble_eq_true rfl) dX11_luck_117 ⟨Nat.zero_le _, Nat.zero_le _⟩ (W' := [cob oh 11 [.ref os, .ref ok, .ref ol, .ref ord, .int isk, .ref odd, .ref otp, .int (nI tpd), .ref olt, .int oat, .int obg, .int otk, .int ovl, .ref orw, .int (nI rmn), .ref oso, .ref osz, .ref oit, .ref oho, .ref ohe, .ref otr, .int (nI tcd), .int own_, .int opt], cin g os 51 (mR stp laws z cnt fogs arms kinds faiths places moved), cin g ol 51 (mR stp laws z cnt fogs arms kinds faiths places moved), cin g odd 8 de]) rfl (fun H locs hw => ?_)
          refine lv_iload_n hx hb dX11_luck_120 rfl (lv_at hl 1 rfl) ?_
          exact rE_i hf hr hlk hw ⟨congrArg some (by simp only [if_pos (nO_1 c_1), hkE]), _, _, rfl⟩ (show ([oh, os, ol, odd] : List Nat) = [oh, os, ol, odd] from rfl) dX11_luck_121
        · have hkE : k < ix n := Nat.not_le.mp (fun h => c_3 ((nI_leI (by omega) (by omega)).mpr h))
          refine lv_aload_n hx hb dX11_luck_55 rfl (lv_at hl 3 rfl) ?_
          refine mcV hf hk hst hw (c_X11_byDraws l g oh os ok ol ord odd otp olt orw oso osz oit oho ohe otr stp laws ((lkS laws fogs arms stp kinds faiths places cnt z k).2) cnt fogs arms kinds faiths places moved isk tpd oat obg otk ovl rmn tcd own_ opt de (by omega) (by omega) (by assumption) (by assumption)) (cwV 0 hts gX11_luck_X11_byDraws rfl rfl rfl hdV_X11_byDraws ⟨Nat.le_of_ble_eq_true rfl, Nat.le_of_ble_eq_true rfl⟩) [0, 1, 3] rfl rfl 0 rfl rfl rfl hl.1 rfl (Nat.le_of_ble_eq_true rfl) dX11_luck_56 ⟨Nat.zero_le _, Nat.zero_le _⟩ (W' := [cob oh 11 [.ref os, .ref ok, .ref ol, .ref ord, .int isk, .ref odd, .ref otp, .int (nI tpd), .ref olt, .int oat, .int obg, .int otk, .int ovl, .ref orw, .int (nI rmn), .ref oso, .ref osz, .ref oit, .ref oho, .ref ohe, .ref otr, .int (nI tcd), .int own_, .int opt], cin g os 51 (mR (stp + 1) laws (drZ2 ((lkS laws fogs arms stp kinds faiths places cnt z k).2) cnt) cnt fogs arms kinds (goF laws fogs arms stp kinds (drF laws faiths ((lkS laws fogs arms stp kinds faiths places cnt z k).2) cnt) places cnt) (goP laws fogs arms stp kinds (drF laws faiths ((lkS laws fogs arms stp kinds faiths places cnt z k).2) cnt) places cnt) (goM laws fogs arms stp kinds places moved cnt)), cin g ol 51 (mR stp laws z cnt fogs arms kinds faiths places moved), cin g odd 8 (goE laws fogs arms stp kinds (drF laws faiths ((lkS laws fogs arms stp kinds faiths places cnt z k).2) cnt) places de cnt)]) rfl (fun H locs hw => ?_)
          refine lv_iload_n hx hb dX11_luck_59 rfl (lv_at hl 1 rfl) ?_
          refine lv_aload_n hx hb dX11_luck_60 rfl (lv_at hl 3 rfl) ?_
          refine lv_iconst (v := 2) hx hb dX11_luck_61 (by decide) ?_
          refine mcV hf hk hst hw (c_X11_sumOf2 l g oh os ok ol ord odd otp olt orw oso osz oit oho ohe otr (stp + 1) laws (drZ2 ((lkS laws fogs arms stp kinds faiths places cnt z k).2) cnt) cnt fogs arms kinds (goF laws fogs arms stp kinds (drF laws faiths ((lkS laws fogs arms stp kinds faiths places cnt z k).2) cnt) places cnt) (goP laws fogs arms stp kinds (drF laws faiths ((lkS laws fogs arms stp kinds faiths places cnt z k).2) cnt) places cnt) (goM laws fogs arms stp kinds places moved cnt) isk tpd oat obg otk ovl rmn tcd own_ opt (by omega)) (cwV 1 hts gX11_luck_X11_sumOf rfl rfl rfl hdV_X11_sumOf ⟨Nat.le_of_ble_eq_true rfl, Nat.le_of_ble_eq_true rfl⟩) [0, 1] rfl rfl 0 rfl rfl rfl hl.1 rfl (Nat.le_of_ble_eq_true rfl) dX11_luck_62 ⟨Nat.zero_le _, Nat.zero_le _⟩ (W' := [cob oh 11 [.ref os, .ref ok, .ref ol, .ref ord, .int isk, .ref odd, .ref otp, .int (nI tpd), .ref olt, .int oat, .int obg, .int otk, .int ovl, .ref orw, .int (nI rmn), .ref oso, .ref osz, .ref oit, .ref oho, .ref ohe, .ref otr, .int (nI tcd), .int own_, .int opt], cin g os 51 (mR (stp + 1) laws (drZ2 ((lkS laws fogs arms stp kinds faiths places cnt z k).2) cnt) cnt fogs arms kinds (goF laws fogs arms stp kinds (drF laws faiths ((lkS laws fogs arms stp kinds faiths places cnt z k).2) cnt) places cnt) (goP laws fogs arms stp kinds (drF laws faiths ((lkS laws fogs arms stp kinds faiths places cnt z k).2) cnt) places cnt) (goM laws fogs arms stp kinds places moved cnt)), cin g ol 51 (mR stp laws z cnt fogs arms kinds faiths places moved), cin g odd 8 (goE laws fogs arms stp kinds (drF laws faiths ((lkS laws fogs arms stp kinds faiths places cnt z k).2) cnt) places de cnt)]) rfl (fun H locs hw => ?_)
          refine lv_iload_n hx hb dX11_luck_65 rfl (lv_at hl 2 rfl) ?_
          refine lv_icmp_le (tgt := 73) hx hb dX11_luck_66 (by decide) (fun c_4 => ?_) (fun c_4 => ?_)
          · refine lv_iconst (v := 0) hx hb dX11_luck_73 (by decide) ?_
            refine lv_iadd hx hb dX11_luck_74 ?_
            refine lv_istore_n (lv' := [(3, .int (((lkS laws fogs arms stp kinds faiths places cnt z k).1) + 0)), (4, .int (nI k)), (2, .int (sumTo (goP laws fogs arms stp kinds faiths places cnt) cnt)), (0, .ref oh), (1, .int n)]) hx hb dX11_luck_75 rfl hl (by decide) rfl (fun ls hl => ?_)
            refine lv_aload_n hx hb dX11_luck_76 rfl (lv_at hl 3 rfl) ?_
            refine rg hf hk hw hinX11 0 rfl rfl 0 (by decide) w_0 rfl dX11_luck_77 ?_
            refine lv_iconst (v := 5) hx hb dX11_luck_80 (by decide) ?_
            refine rij hf hk hw 1 rfl (j := 5) (vp_in_nI (n := 5) (by omega) (by omega)) (rfl) dX11_luck_81 ?_
            refine lv_tope (y := drZ2 ((lkS laws fogs arms stp kinds faiths places cnt z k).2) cnt) (mR_z) ?_
            refine lv_istore (lv' := [(5, .int (drZ2 ((lkS laws fogs arms stp kinds faiths places cnt z k).2) cnt)), (3, .int (((lkS laws fogs arms stp kinds faiths places cnt z k).1) + 0)), (4, .int (nI k)), (2, .int (sumTo (goP laws fogs arms stp kinds faiths places cnt) cnt)), (0, .ref oh), (1, .int n)]) hx hb dX11_luck_82 hl (by decide) rfl (fun ls hl => ?_)
            refine lv_aload_n hx hb dX11_luck_84 rfl (lv_at hl 4 rfl) ?_
            refine rg hf hk hw hinX11 0 rfl rfl 2 (by decide) w_1 rfl dX11_luck_85 ?_
            refine lv_aload_n hx hb dX11_luck_88 rfl (lv_at hl 4 rfl) ?_
            refine rg hf hk hw hinX11 0 rfl rfl 0 (by decide) w_0 rfl dX11_luck_89 ?_
            refine mcS hf hk hst hw (c_X11_copies l g ol os (mR stp laws z cnt fogs arms kinds faiths places moved) (mR (stp + 1) laws (drZ2 ((lkS laws fogs arms stp kinds faiths places cnt z k).2) cnt) cnt fogs arms kinds (goF laws fogs arms stp kinds (drF laws faiths ((lkS laws fogs arms stp kinds faiths places cnt z k).2) cnt) places cnt) (goP laws fogs arms stp kinds (drF laws faiths ((lkS laws fogs arms stp kinds faiths places cnt z k).2) cnt) places cnt) (goM laws fogs arms stp kinds places moved cnt))) (va_cwS 2 hts gX11_luck_X11_copies rfl rfl rfl hdS_X11_copies ⟨Nat.le_of_ble_eq_true rfl, Nat.le_of_ble_eq_true rfl⟩) [2, 1] rfl rfl rfl hl.1 rfl (Nat.le_of_ble_eq_true rfl) dX11_luck_92 ⟨Nat.zero_le _, Nat.zero_le _⟩ (W' := [cob oh 11 [.ref os, .ref ok, .ref ol, .ref ord, .int isk, .ref odd, .ref otp, .int (nI tpd), .ref olt, .int oat, .int obg, .int otk, .int ovl, .ref orw, .int (nI rmn), .ref oso, .ref osz, .ref oit, .ref oho, .ref ohe, .ref otr, .int (nI tcd), .int own_, .int opt], cin g os 51 (mR stp laws z cnt fogs arms kinds faiths places moved), cin g ol 51 (mR stp laws z cnt fogs arms kinds faiths places moved), cin g odd 8 (goE laws fogs arms stp kinds (drF laws faiths ((lkS laws fogs arms stp kinds faiths places cnt z k).2) cnt) places de cnt)]) rfl (fun H locs hw => ?_)
            refine lv_aload_n hx hb dX11_luck_95 rfl (lv_at hl 4 rfl) ?_
            refine rg hf hk hw hinX11 0 rfl rfl 0 (by decide) w_0 rfl dX11_luck_96 ?_
            refine lv_iconst (v := 5) hx hb dX11_luck_99 (by decide) ?_
            refine lv_iload hx hb dX11_luck_100 (lv_at hl 0 rfl) ?_
            refine rse hf hk hw 1 rfl (j := 5) (vp_in_nI (n := 5) (by omega) (by omega)) (rfl) (mU_z) dX11_luck_102 (W' := [cob oh 11 [.ref os, .ref ok, .ref ol, .ref ord, .int isk, .ref odd, .ref otp, .int (nI tpd), .ref olt, .int oat, .int obg, .int otk, .int ovl, .ref orw, .int (nI rmn), .ref oso, .ref osz, .ref oit, .ref oho, .ref ohe, .ref otr, .int (nI tcd), .int own_, .int opt], cin g os 51 (mR stp laws (drZ2 ((lkS laws fogs arms stp kinds faiths places cnt z k).2) cnt) cnt fogs arms kinds faiths places moved), cin g ol 51 (mR stp laws z cnt fogs arms kinds faiths places moved), cin g odd 8 (goE laws fogs arms stp kinds (drF laws faiths ((lkS laws fogs arms stp kinds faiths places cnt z k).2) cnt) places de cnt)]) rfl (fun H locs hw => ?_)
            refine lv_iinc (v := nI (k + 1)) (lv' := [(4, .int (nI (k + 1))), (5, .int (drZ2 ((lkS laws fogs arms stp kinds faiths places cnt z k).2) cnt)), (3, .int (((lkS laws fogs arms stp kinds faiths places cnt z k).1) + 0)), (2, .int (sumTo (goP laws fogs arms stp kinds faiths places cnt) cnt)), (0, .ref oh), (1, .int n)]) hx hb dX11_luck_103 hl (k := 2) rfl (nI_1 _) (by decide) rfl (fun ls hl => ?_)
            refine lv_goto (tgt := 49) hx hb dX11_luck_106 (by decide) ?_
            have e_1 : ((lkS laws fogs arms stp kinds faiths places cnt z k).1) + 0 = (lkS laws fogs arms stp kinds faiths places cnt z (k + 1)).1 := by rw [ad0, lkS_1, if_pos c_4]
            rw [e_1] at hl
            have e_2 : mR stp laws (drZ2 ((lkS laws fogs arms stp kinds faiths places cnt z k).2) cnt) cnt fogs arms kinds faiths places moved = mR stp laws ((lkS laws fogs arms stp kinds faiths places cnt z (k + 1)).2) cnt fogs arms kinds faiths places moved := congrArg (fun y => mR stp laws y cnt fogs arms kinds faiths places moved) (lkS_z laws fogs arms stp kinds faiths places cnt z k).symm
            rw [e_2] at hw
            exact ih_49 (k + 1) (goE laws fogs arms stp kinds (drF laws faiths ((lkS laws fogs arms stp kinds faiths places cnt z k).2) cnt) places de cnt) (by omega) (by omega) _ _ hw _ (lv_sub hl [0, 2, 3, 4, 5] rfl)
          · refine lv_iconst (v := 1) hx hb dX11_luck_69 (by decide) ?_
            refine lv_goto (tgt := 74) hx hb dX11_luck_70 (by decide) ?_
            refine lv_iadd hx hb dX11_luck_74 ?_
            refine lv_istore_n (lv' := [(3, .int (((lkS laws fogs arms stp kinds faiths places cnt z k).1) + 1)), (4, .int (nI k)), (2, .int (sumTo (goP laws fogs arms stp kinds faiths places cnt) cnt)), (0, .ref oh), (1, .int n)]) hx hb dX11_luck_75 rfl hl (by decide) rfl (fun ls hl => ?_)
            refine lv_aload_n hx hb dX11_luck_76 rfl (lv_at hl 3 rfl) ?_
            refine rg hf hk hw hinX11 0 rfl rfl 0 (by decide) w_0 rfl dX11_luck_77 ?_
            refine lv_iconst (v := 5) hx hb dX11_luck_80 (by decide) ?_
            refine rij hf hk hw 1 rfl (j := 5) (vp_in_nI (n := 5) (by omega) (by omega)) (rfl) dX11_luck_81 ?_
            refine lv_tope (y := drZ2 ((lkS laws fogs arms stp kinds faiths places cnt z k).2) cnt) (mR_z) ?_
            refine lv_istore (lv' := [(5, .int (drZ2 ((lkS laws fogs arms stp kinds faiths places cnt z k).2) cnt)), (3, .int (((lkS laws fogs arms stp kinds faiths places cnt z k).1) + 1)), (4, .int (nI k)), (2, .int (sumTo (goP laws fogs arms stp kinds faiths places cnt) cnt)), (0, .ref oh), (1, .int n)]) hx hb dX11_luck_82 hl (by decide) rfl (fun ls hl => ?_)
            refine lv_aload_n hx hb dX11_luck_84 rfl (lv_at hl 4 rfl) ?_
            refine rg hf hk hw hinX11 0 rfl rfl 2 (by decide) w_1 rfl dX11_luck_85 ?_
            refine lv_aload_n hx hb dX11_luck_88 rfl (lv_at hl 4 rfl) ?_
            refine rg hf hk hw hinX11 0 rfl rfl 0 (by decide) w_0 rfl dX11_luck_89 ?_
            refine mcS hf hk hst hw (c_X11_copies l g ol os (mR stp laws z cnt fogs arms kinds faiths places moved) (mR (stp + 1) laws (drZ2 ((lkS laws fogs arms stp kinds faiths places cnt z k).2) cnt) cnt fogs arms kinds (goF laws fogs arms stp kinds (drF laws faiths ((lkS laws fogs arms stp kinds faiths places cnt z k).2) cnt) places cnt) (goP laws fogs arms stp kinds (drF laws faiths ((lkS laws fogs arms stp kinds faiths places cnt z k).2) cnt) places cnt) (goM laws fogs arms stp kinds places moved cnt))) (va_cwS 2 hts gX11_luck_X11_copies rfl rfl rfl hdS_X11_copies ⟨Nat.le_of_ble_eq_true rfl, Nat.le_of_ble_eq_true rfl⟩) [2, 1] rfl rfl rfl hl.1 rfl (Nat.le_of_ble_eq_true rfl) dX11_luck_92 ⟨Nat.zero_le _, Nat.zero_le _⟩ (W' := [cob oh 11 [.ref os, .ref ok, .ref ol, .ref ord, .int isk, .ref odd, .ref otp, .int (nI tpd), .ref olt, .int oat, .int obg, .int otk, .int ovl, .ref orw, .int (nI rmn), .ref oso, .ref osz, .ref oit, .ref oho, .ref ohe, .ref otr, .int (nI tcd), .int own_, .int opt], cin g os 51 (mR stp laws z cnt fogs arms kinds faiths places moved), cin g ol 51 (mR stp laws z cnt fogs arms kinds faiths places moved), cin g odd 8 (goE laws fogs arms stp kinds (drF laws faiths ((lkS laws fogs arms stp kinds faiths places cnt z k).2) cnt) places de cnt)]) rfl (fun H locs hw => ?_)
            refine lv_aload_n hx hb dX11_luck_95 rfl (lv_at hl 4 rfl) ?_
            refine rg hf hk hw hinX11 0 rfl rfl 0 (by decide) w_0 rfl dX11_luck_96 ?_
            refine lv_iconst (v := 5) hx hb dX11_luck_99 (by decide) ?_
            refine lv_iload hx hb dX11_luck_100 (lv_at hl 0 rfl) ?_
            refine rse hf hk hw 1 rfl (j := 5) (vp_in_nI (n := 5) (by omega) (by omega)) (rfl) (mU_z) dX11_luck_102 (W' := [cob oh 11 [.ref os, .ref ok, .ref ol, .ref ord, .int isk, .ref odd, .ref otp, .int (nI tpd), .ref olt, .int oat, .int obg, .int otk, .int ovl, .ref orw, .int (nI rmn), .ref oso, .ref osz, .ref oit, .ref oho, .ref ohe, .ref otr, .int (nI tcd), .int own_, .int opt], cin g os 51 (mR stp laws (drZ2 ((lkS laws fogs arms stp kinds faiths places cnt z k).2) cnt) cnt fogs arms kinds faiths places moved), cin g ol 51 (mR stp laws z cnt fogs arms kinds faiths places moved), cin g odd 8 (goE laws fogs arms stp kinds (drF laws faiths ((lkS laws fogs arms stp kinds faiths places cnt z k).2) cnt) places de cnt)]) rfl (fun H locs hw => ?_)
            refine lv_iinc (v := nI (k + 1)) (lv' := [(4, .int (nI (k + 1))), (5, .int (drZ2 ((lkS laws fogs arms stp kinds faiths places cnt z k).2) cnt)), (3, .int (((lkS laws fogs arms stp kinds faiths places cnt z k).1) + 1)), (2, .int (sumTo (goP laws fogs arms stp kinds faiths places cnt) cnt)), (0, .ref oh), (1, .int n)]) hx hb dX11_luck_103 hl (k := 2) rfl (nI_1 _) (by decide) rfl (fun ls hl => ?_)
            refine lv_goto (tgt := 49) hx hb dX11_luck_106 (by decide) ?_
            have e_1 : ((lkS laws fogs arms stp kinds faiths places cnt z k).1) + 1 = (lkS laws fogs arms stp kinds faiths places cnt z (k + 1)).1 := by rw [lkS_1, if_neg c_4]
            rw [e_1] at hl
            have e_2 : mR stp laws (drZ2 ((lkS laws fogs arms stp kinds faiths places cnt z k).2) cnt) cnt fogs arms kinds faiths places moved = mR stp laws ((lkS laws fogs arms stp kinds faiths places cnt z (k + 1)).2) cnt fogs arms kinds faiths places moved := congrArg (fun y => mR stp laws y cnt fogs arms kinds faiths places moved) (lkS_z laws fogs arms stp kinds faiths places cnt z k).symm
            rw [e_2] at hw
            exact ih_49 (k + 1) (goE laws fogs arms stp kinds (drF laws faiths ((lkS laws fogs arms stp kinds faiths places cnt z k).2) cnt) places de cnt) (by omega) (by omega) _ _ hw _ (lv_sub hl [0, 2, 3, 4, 5] rfl)
    exact lp_49_1 ((ix n) + 1) 0 (goE laws fogs arms stp kinds faiths places dd cnt) (by omega) (by omega) _ _ hw _ (lv_sub hl [0, 1, 2, 3, 4] rfl)
  · refine lv_iconst (v := (-1)) hx hb dX11_luck_10 (by decide) ?_
    exact rE_i hf hr hlk hw ⟨congrArg some (by simp only [if_neg (nO_0 c_1)]), _, _, rfl⟩ (show ([oh, os, ol, odd] : List Nat) = [oh, os, ol, odd] from rfl) dX11_luck_11
abbrev rmX11_rowNow : Room := { frames := 3, cells := 0, slots := 0, locals := 67 }
set_option maxHeartbeats 4000000 in
set_option maxRecDepth 100000 in
theorem c_X11_rowNow (l : Launch) (g : GG) (oh : Nat) (os : Nat) (ok : Nat) (ol : Nat) (ord : Nat) (odd : Nat) (otp : Nat) (olt : Nat) (orw : Nat) (oso : Nat) (osz : Nat) (oit : Nat) (oho : Nat) (ohe : Nat) (otr : Nat) (stp : Nat) (laws : Nat → Int32) (z : Int32) (cnt : Nat) (fogs : Nat → Int32) (arms : Nat → Int32) (kinds : Nat → Int32) (faiths : Nat → Int32) (places : Nat → Int32) (moved : Nat → Int32) (isk : Int32) (tpd : Nat) (oat : Int32) (obg : Int32) (otk : Int32) (ovl : Int32) (rmn : Nat) (tcd : Nat) (own_ : Int32) (opt : Int32) (q : Nat) (w : Int32) (hc8 : cnt ≤ 8) (hq : q < cnt) (hpl : ∀ j, j < cnt → plOk (places j)) : mt l g yX11_rowNow wsX11_rowNow rmX11_rowNow [.ref oh, .int (nI q), .int w] [cob oh 11 [.ref os, .ref ok, .ref ol, .ref ord, .int isk, .ref odd, .ref otp, .int (nI tpd), .ref olt, .int oat, .int obg, .int otk, .int ovl, .ref orw, .int (nI rmn), .ref oso, .ref osz, .ref oit, .ref oho, .ref ohe, .ref otr, .int (nI tcd), .int own_, .int opt], cin g os 51 (mR stp laws z cnt fogs arms kinds faiths places moved)] (some (.int (f_X8_partOfRow faiths places cnt q w))) [cob oh 11 [.ref os, .ref ok, .ref ol, .ref ord, .int isk, .ref odd, .ref otp, .int (nI tpd), .ref olt, .int oat, .int obg, .int otk, .int ovl, .ref orw, .int (nI rmn), .ref oso, .ref osz, .ref oit, .ref oho, .ref ohe, .ref otr, .int (nI tcd), .int own_, .int opt], cin g os 51 (mR stp laws z cnt fogs arms kinds faiths places moved)] := by
  refine mt.of (cc := cX11_rowNow) (nL := 3) (ret := (some .int)) (own := RX11) (by decide +kernel) rfl rfl (show ([oh, os] : List Nat) = [oh, os] from rfl) (Nat.le_of_ble_eq_true rfl) (fun p e s m below meth c hf hr hlk _ hk hst hw ls hl => ?_)
  have hx := hf.1
  have hb := hf.2.1
  have hts := hf.2.2.2.2
  have hl : lv_has ls 3 [(0, .ref oh), (1, .int (nI q)), (2, .int w)] := hl
  refine lv_iload_n hx hb dX11_rowNow_0 rfl (lv_at hl 2 rfl) ?_
  refine lv_if_ne (tgt := 13) hx hb dX11_rowNow_1 (by decide) (fun c_1 => ?_) (fun c_1 => ?_)
  · refine lv_iload_n hx hb dX11_rowNow_13 rfl (lv_at hl 2 rfl) ?_
    refine lv_iconst (v := 1) hx hb dX11_rowNow_14 (by decide) ?_
    refine lv_icmp_ne (tgt := 27) hx hb dX11_rowNow_15 (by decide) (fun c_2 => ?_) (fun c_2 => ?_)
    · refine lv_aload_n hx hb dX11_rowNow_27 rfl (lv_at hl 0 rfl) ?_
      refine lv_iconst (v := 1) hx hb dX11_rowNow_28 (by decide) ?_
      refine mcV hf hk hst hw (c_X11_setOf1 l g oh os ok ol ord odd otp olt orw oso osz oit oho ohe otr stp laws z cnt fogs arms kinds faiths places moved isk tpd oat obg otk ovl rmn tcd own_ opt (by omega) (by assumption)) (cwV 1 hts gX11_rowNow_X11_setOf rfl rfl rfl hdV_X11_setOf ⟨Nat.le_of_ble_eq_true rfl, Nat.le_of_ble_eq_true rfl⟩) [0, 1] rfl rfl 0 rfl rfl rfl hl.1 rfl (Nat.le_of_ble_eq_true rfl) dX11_rowNow_29 ⟨Nat.zero_le _, Nat.zero_le _⟩ (W' := [cob oh 11 [.ref os, .ref ok, .ref ol, .ref ord, .int isk, .ref odd, .ref otp, .int (nI tpd), .ref olt, .int oat, .int obg, .int otk, .int ovl, .ref orw, .int (nI rmn), .ref oso, .ref osz, .ref oit, .ref oho, .ref ohe, .ref otr, .int (nI tcd), .int own_, .int opt], cin g os 51 (mR stp laws z cnt fogs arms kinds faiths places moved)]) rfl (fun H locs hw => ?_)
      exact re_i hf hr hlk hw (by unfold f_X8_partOfRow; rw [if_neg c_1, if_neg c_2]) (rfl) dX11_rowNow_32
    · refine lv_aload_n hx hb dX11_rowNow_18 rfl (lv_at hl 0 rfl) ?_
      refine lv_iload_n hx hb dX11_rowNow_19 rfl (lv_at hl 1 rfl) ?_
      refine lv_iconst (v := 1) hx hb dX11_rowNow_20 (by decide) ?_
      refine mcV hf hk hst hw (c_X11_get1 l g oh os ok ol ord odd otp olt orw oso osz oit oho ohe otr stp laws z cnt fogs arms kinds faiths places moved isk tpd oat obg otk ovl rmn tcd own_ opt q (by omega)) (cwV 2 hts gX11_rowNow_X11_get rfl rfl rfl hdV_X11_get ⟨Nat.le_of_ble_eq_true rfl, Nat.le_of_ble_eq_true rfl⟩) [0, 1] rfl rfl 0 rfl rfl rfl hl.1 rfl (Nat.le_of_ble_eq_true rfl) dX11_rowNow_21 ⟨Nat.zero_le _, Nat.zero_le _⟩ (W' := [cob oh 11 [.ref os, .ref ok, .ref ol, .ref ord, .int isk, .ref odd, .ref otp, .int (nI tpd), .ref olt, .int oat, .int obg, .int otk, .int ovl, .ref orw, .int (nI rmn), .ref oso, .ref osz, .ref oit, .ref oho, .ref ohe, .ref otr, .int (nI tcd), .int own_, .int opt], cin g os 51 (mR stp laws z cnt fogs arms kinds faiths places moved)]) rfl (fun H locs hw => ?_)
      refine lv_goto (tgt := 32) hx hb dX11_rowNow_24 (by decide) ?_
      exact re_i hf hr hlk hw (by unfold f_X8_partOfRow; rw [if_neg c_1, if_pos c_2]) (rfl) dX11_rowNow_32
  · refine lv_aload_n hx hb dX11_rowNow_4 rfl (lv_at hl 0 rfl) ?_
    refine lv_iload_n hx hb dX11_rowNow_5 rfl (lv_at hl 1 rfl) ?_
    refine lv_iconst (v := 2) hx hb dX11_rowNow_6 (by decide) ?_
    refine mcV hf hk hst hw (c_X11_get2 l g oh os ok ol ord odd otp olt orw oso osz oit oho ohe otr stp laws z cnt fogs arms kinds faiths places moved isk tpd oat obg otk ovl rmn tcd own_ opt q (by omega)) (cwV 2 hts gX11_rowNow_X11_get rfl rfl rfl hdV_X11_get ⟨Nat.le_of_ble_eq_true rfl, Nat.le_of_ble_eq_true rfl⟩) [0, 1] rfl rfl 0 rfl rfl rfl hl.1 rfl (Nat.le_of_ble_eq_true rfl) dX11_rowNow_7 ⟨Nat.zero_le _, Nat.zero_le _⟩ (W' := [cob oh 11 [.ref os, .ref ok, .ref ol, .ref ord, .int isk, .ref odd, .ref otp, .int (nI tpd), .ref olt, .int oat, .int obg, .int otk, .int ovl, .ref orw, .int (nI rmn), .ref oso, .ref osz, .ref oit, .ref oho, .ref ohe, .ref otr, .int (nI tcd), .int own_, .int opt], cin g os 51 (mR stp laws z cnt fogs arms kinds faiths places moved)]) rfl (fun H locs hw => ?_)
    refine lv_goto (tgt := 32) hx hb dX11_rowNow_10 (by decide) ?_
    exact re_i hf hr hlk hw (by unfold f_X8_partOfRow; rw [if_pos c_1]) (rfl) dX11_rowNow_32
theorem hdV_X11_rowNow : yX11_rowNow.cls = RX11 ∧ yX11_rowNow.cls ≠ "java/lang/invoke/MethodHandle" ∧ yX11_rowNow.cls ≠ "java/lang/invoke/VarHandle" ∧ (parseMethodDescriptor yX11_rowNow.desc).map (fun d => d.parameters.length) = some 2 := by decide +kernel
abbrev rmX11_prove : Room := { frames := 6, cells := 0, slots := 0, locals := 132 }
set_option maxHeartbeats 4000000 in
set_option maxRecDepth 100000 in
theorem c_X11_prove (l : Launch) (g : GG) (oh : Nat) (os : Nat) (ok : Nat) (ol : Nat) (ord : Nat) (odd : Nat) (otp : Nat) (olt : Nat) (orw : Nat) (oso : Nat) (osz : Nat) (oit : Nat) (oho : Nat) (ohe : Nat) (otr : Nat) (stp : Nat) (laws : Nat → Int32) (z : Int32) (cnt : Nat) (fogs : Nat → Int32) (arms : Nat → Int32) (kinds : Nat → Int32) (faiths : Nat → Int32) (places : Nat → Int32) (moved : Nat → Int32) (isk : Int32) (tpd : Nat) (oat : Int32) (obg : Int32) (otk : Int32) (ovl : Int32) (rmn : Nat) (tcd : Nat) (own_ : Int32) (opt : Int32) (lr : Nat → Int32) (dd : Nat → Int32) (rws : Nat → Int32) (goer : Int32) (n : Int32) (hc8 : cnt ≤ 8) (hsp : stp < 2 ^ 29) (hpl : ∀ j, j < cnt → plOk (places j)) (hmo_ : ∀ j, j < cnt → moOk (moved j)) (h10 : rmn ≤ 10) : mtR l g yX11_prove wsX11_prove rmX11_prove [.ref oh, .int goer, .int n] [cob oh 11 [.ref os, .ref ok, .ref ol, .ref ord, .int isk, .ref odd, .ref otp, .int (nI tpd), .ref olt, .int oat, .int obg, .int otk, .int ovl, .ref orw, .int (nI rmn), .ref oso, .ref osz, .ref oit, .ref oho, .ref ohe, .ref otr, .int (nI tcd), .int own_, .int opt], cin g os 51 (mR stp laws z cnt fogs arms kinds faiths places moved), cin g ol 51 lr, cin g odd 8 dd, cin g orw 30 rws] (fun rv W => rv = (some (.int (if f_X8_has cnt goer = 0 then -1 else if f_X10_isOutside n 1 10 = 0 then nI (ix n) else -1))) ∧ ∃ (j0 : Nat → Int32) (j1 : Nat → Int32), W = [cob oh 11 [.ref os, .ref ok, .ref ol, .ref ord, .int isk, .ref odd, .ref otp, .int (nI tpd), .ref olt, .int oat, .int obg, .int otk, .int ovl, .ref orw, .int (nI (if f_X8_has cnt goer = 0 then rmn else if f_X10_isOutside n 1 10 = 0 then ix n else rmn)), .ref oso, .ref osz, .ref oit, .ref oho, .ref ohe, .ref otr, .int (nI tcd), .int own_, .int opt], cin g os 51 (mR stp laws z cnt fogs arms kinds faiths places moved), cin g ol 51 j0, cin g odd 8 j1, cin g orw 30 (if f_X8_has cnt goer = 0 then rws else if f_X10_isOutside n 1 10 = 0 then cpT rws (rowRV laws fogs arms kinds cnt stp faiths places moved (ix goer)) (3 * ix n) else rws)]) := by
  refine mtR.of (cc := cX11_prove) (nL := 5) (ret := (some .int)) (own := RX11) (by decide +kernel) rfl rfl (Nat.le_of_ble_eq_true rfl) (fun p e s m below meth c hf hr hlk _ hk hst hw ls hl => ?_)
  have hx := hf.1
  have hb := hf.2.1
  have hts := hf.2.2.2.2
  have hl : lv_has ls 5 [(0, .ref oh), (1, .int goer), (2, .int n)] := hl
  have hinX11 : ∀ w ∈ u_ws RX11 TX11 24, w ∈ wsX11_prove := fun w h => List.mem_cons_of_mem _ (List.mem_append_right _ h)
  have w_0 : Cond.fieldLink RX11 9 "LightManModel" "s" "[I" ∈ wsX11_prove := List.mem_of_getElem? (i := 1) rfl
  have w_1 : Cond.fieldLink RX11 16 "LightManModel" "laid" "[I" ∈ wsX11_prove := List.mem_of_getElem? (i := 2) rfl
  have w_2 : Cond.fieldLink RX11 162 "LightManModel" "rowMany" "I" ∈ wsX11_prove := List.mem_of_getElem? (i := 4) rfl
  have w_3 : Cond.fieldLink RX11 32 "LightManModel" "rows" "[I" ∈ wsX11_prove := List.mem_of_getElem? (i := 3) rfl
  refine lv_aload_n hx hb dX11_prove_0 rfl (lv_at hl 0 rfl) ?_
  refine lv_iload_n hx hb dX11_prove_1 rfl (lv_at hl 1 rfl) ?_
  refine mcV hf hk hst hw (c_X11_isGoer l g oh os ok ol ord odd otp olt orw oso osz oit oho ohe otr stp laws z cnt fogs arms kinds faiths places moved isk tpd oat obg otk ovl rmn tcd own_ opt goer (by omega)) (cwV 1 hts gX11_prove_X11_isGoer rfl rfl rfl hdV_X11_isGoer ⟨Nat.le_of_ble_eq_true rfl, Nat.le_of_ble_eq_true rfl⟩) [0, 1] rfl rfl 0 rfl rfl rfl hl.1 rfl (Nat.le_of_ble_eq_true rfl) dX11_prove_2 ⟨Nat.zero_le _, Nat.zero_le _⟩ (W' := [cob oh 11 [.ref os, .ref ok, .ref ol, .ref ord, .int isk, .ref odd, .ref otp, .int (nI tpd), .ref olt, .int oat, .int obg, .int otk, .int ovl, .ref orw, .int (nI rmn), .ref oso, .ref osz, .ref oit, .ref oho, .ref ohe, .ref otr, .int (nI tcd), .int own_, .int opt], cin g os 51 (mR stp laws z cnt fogs arms kinds faiths places moved), cin g ol 51 lr, cin g odd 8 dd, cin g orw 30 rws]) rfl (fun H locs hw => ?_)
  refine lv_if_eq (tgt := 18) hx hb dX11_prove_5 (by decide) (fun c_1 => ?_) (fun c_1 => ?_)
  · refine lv_iconst (v := (-1)) hx hb dX11_prove_18 (by decide) ?_
    exact rE_i hf hr hlk hw ⟨congrArg some (by simp only [if_pos c_1]), lr, dd, by simp only [if_pos c_1]⟩ (show ([oh, os, ol, odd, orw] : List Nat) = [oh, os, ol, odd, orw] from rfl) dX11_prove_19
  · have hg := has_n hc8 c_1
    have hg2 := hg.2
    refine lv_iload_n hx hb dX11_prove_8 rfl (lv_at hl 2 rfl) ?_
    refine lv_iconst (v := 1) hx hb dX11_prove_9 (by decide) ?_
    refine lv_bipush (v := 10) hx hb dX11_prove_10 (by decide) ?_
    refine mcS hf hk hst hw (c_X11_in1 l g n 1 10) (va_cwS 3 hts gX11_prove_X11_in1 rfl rfl rfl hdS_X11_in1 ⟨Nat.le_of_ble_eq_true rfl, Nat.le_of_ble_eq_true rfl⟩) [] rfl rfl rfl hl.1 rfl (Nat.le_of_ble_eq_true rfl) dX11_prove_12 ⟨Nat.zero_le _, Nat.zero_le _⟩ (W' := [cob oh 11 [.ref os, .ref ok, .ref ol, .ref ord, .int isk, .ref odd, .ref otp, .int (nI tpd), .ref olt, .int oat, .int obg, .int otk, .int ovl, .ref orw, .int (nI rmn), .ref oso, .ref osz, .ref oit, .ref oho, .ref ohe, .ref otr, .int (nI tcd), .int own_, .int opt], cin g os 51 (mR stp laws z cnt fogs arms kinds faiths places moved), cin g ol 51 lr, cin g odd 8 dd, cin g orw 30 rws]) rfl (fun H locs hw => ?_)
    refine lv_if_ne (tgt := 20) hx hb dX11_prove_15 (by decide) (fun c_2 => ?_) (fun c_2 => ?_)
    · have hn := out_n1 (M := 1) (N := 10) (by decide) (by decide) (nO_1 c_2)
      have hn2 := hn.2.1
      have hn3 := hn.2.2
      refine lv_aload_n hx hb dX11_prove_20 rfl (lv_at hl 0 rfl) ?_
      refine rg hf hk hw hinX11 0 rfl rfl 0 (by decide) w_0 rfl dX11_prove_21 ?_
      refine lv_aload_n hx hb dX11_prove_24 rfl (lv_at hl 0 rfl) ?_
      refine rg hf hk hw hinX11 0 rfl rfl 2 (by decide) w_1 rfl dX11_prove_25 ?_
      refine mcS hf hk hst hw (c_X11_copies l g os ol (mR stp laws z cnt fogs arms kinds faiths places moved) lr) (va_cwS 2 hts gX11_prove_X11_copies rfl rfl rfl hdS_X11_copies ⟨Nat.le_of_ble_eq_true rfl, Nat.le_of_ble_eq_true rfl⟩) [1, 2] rfl rfl rfl hl.1 rfl (Nat.le_of_ble_eq_true rfl) dX11_prove_28 ⟨Nat.zero_le _, Nat.zero_le _⟩ (W' := [cob oh 11 [.ref os, .ref ok, .ref ol, .ref ord, .int isk, .ref odd, .ref otp, .int (nI tpd), .ref olt, .int oat, .int obg, .int otk, .int ovl, .ref orw, .int (nI rmn), .ref oso, .ref osz, .ref oit, .ref oho, .ref ohe, .ref otr, .int (nI tcd), .int own_, .int opt], cin g os 51 (mR stp laws z cnt fogs arms kinds faiths places moved), cin g ol 51 (mR stp laws z cnt fogs arms kinds faiths places moved), cin g odd 8 dd, cin g orw 30 rws]) rfl (fun H locs hw => ?_)
      refine lv_iconst (v := 0) hx hb dX11_prove_31 (by decide) ?_
      refine lv_istore_n (lv' := [(3, .int 0), (0, .ref oh), (1, .int goer), (2, .int n)]) hx hb dX11_prove_32 rfl hl (by decide) rfl (fun ls hl => ?_)
      have lp_33_2 : ∀ (fu k : Nat) (de : Nat → Int32) (rw : Nat → Int32), k ≤ (ix n) → (ix n) + 1 ≤ k + fu → (rw = cpT rws (rowRV laws fogs arms kinds cnt stp faiths places moved (ix goer)) (3 * k)) → ∀ (H : Heap) (locs : List Loc), hv g (va_I [cob oh 11 [.ref os, .ref ok, .ref ol, .ref ord, .int isk, .ref odd, .ref otp, .int (nI tpd), .ref olt, .int oat, .int obg, .int otk, .int ovl, .ref orw, .int (nI rmn), .ref oso, .ref osz, .ref oit, .ref oho, .ref ohe, .ref otr, .int (nI tcd), .int own_, .int opt], cin g os 51 (mR stp laws z cnt fogs arms kinds faiths places moved), cin g ol 51 lr, cin g odd 8 dd, cin g orw 30 rws]) s H locs [cob oh 11 [.ref os, .ref ok, .ref ol, .ref ord, .int isk, .ref odd, .ref otp, .int (nI tpd), .ref olt, .int oat, .int obg, .int otk, .int ovl, .ref orw, .int (nI rmn), .ref oso, .ref osz, .ref oit, .ref oho, .ref ohe, .ref otr, .int (nI tcd), .int own_, .int opt], cin g os 51 (mR (stp + k) laws z cnt fogs arms kinds ((stA laws fogs arms kinds cnt stp faiths places moved k).1) ((stA laws fogs arms kinds cnt stp faiths places moved k).2.1) ((stA laws fogs arms kinds cnt stp faiths places moved k).2.2)), cin g ol 51 (mR stp laws z cnt fogs arms kinds faiths places moved), cin g odd 8 de, cin g orw 30 rw] → ∀ ls : Array Slot, lv_has ls 5 [(3, .int (nI k)), (0, .ref oh), (1, .int goer), (2, .int n)] → W p l e rmX11_prove s m ([.ref oh, .int goer, .int n] : List Value).toArray below meth c H locs 0 0 (MQ below (mtS g [cob oh 11 [.ref os, .ref ok, .ref ol, .ref ord, .int isk, .ref odd, .ref otp, .int (nI tpd), .ref olt, .int oat, .int obg, .int otk, .int ovl, .ref orw, .int (nI rmn), .ref oso, .ref osz, .ref oit, .ref oho, .ref ohe, .ref otr, .int (nI tcd), .int own_, .int opt], cin g os 51 (mR stp laws z cnt fogs arms kinds faiths places moved), cin g ol 51 lr, cin g odd 8 dd, cin g orw 30 rws] (fun rv W => rv = (some (.int (if f_X8_has cnt goer = 0 then -1 else if f_X10_isOutside n 1 10 = 0 then nI (ix n) else -1))) ∧ ∃ (j0 : Nat → Int32) (j1 : Nat → Int32), W = [cob oh 11 [.ref os, .ref ok, .ref ol, .ref ord, .int isk, .ref odd, .ref otp, .int (nI tpd), .ref olt, .int oat, .int obg, .int otk, .int ovl, .ref orw, .int (nI (if f_X8_has cnt goer = 0 then rmn else if f_X10_isOutside n 1 10 = 0 then ix n else rmn)), .ref oso, .ref osz, .ref oit, .ref oho, .ref ohe, .ref otr, .int (nI tcd), .int own_, .int opt], cin g os 51 (mR stp laws z cnt fogs arms kinds faiths places moved), cin g ol 51 j0, cin g odd 8 j1, cin g orw 30 (if f_X8_has cnt goer = 0 then rws else if f_X10_isOutside n 1 10 = 0 then cpT rws (rowRV laws fogs arms kinds cnt stp faiths places moved (ix goer)) (3 * ix n) else rws)])) ([.ref oh, .int goer, .int n] : List Value).toArray s 0 0 (va_I [cob oh 11 [.ref os, .ref ok, .ref ol, .ref ord, .int isk, .ref odd, .ref otp, .int (nI tpd), .ref olt, .int oat, .int obg, .int otk, .int ovl, .ref orw, .int (nI rmn), .ref oso, .ref osz, .ref oit, .ref oho, .ref ohe, .ref otr, .int (nI tcd), .int own_, .int opt], cin g os 51 (mR stp laws z cnt fogs arms kinds faiths places moved), cin g ol 51 lr, cin g odd 8 dd, cin g orw 30 rws])) (F0 m 33 ls []) := by
        intro fu
        induction fu with
        | zero =>
          intro k de rw h1 h2
          exact absurd h2 (by omega)
        | succ fu ih_33 =>
          intro k de rw hk1_33 hk2_33 erw H locs hw ls hl
          refine lv_iload_n hx hb dX11_prove_33 rfl (lv_at hl 0 rfl) ?_
          refine lv_iload_n hx hb dX11_prove_34 rfl (lv_at hl 3 rfl) ?_
          refine lv_tope (y := nI (ix n)) hn.1 ?_
          refine lv_icmp_ge (tgt := 81) hx hb dX11_prove_35 (by decide) (fun c_4 => ?_) (fun c_4 => ?_)
          · have hkE : k = ix n := Nat.le_antisymm hk1_33 ((nI_leI (by omega) (by omega)).mp c_4)
            refine lv_aload_n hx hb dX11_prove_81 rfl (lv_at hl 1 rfl) ?_
            refine rg hf hk hw hinX11 0 rfl rfl 2 (by decide) w_1 rfl dX11_prove_82 ?_
            refine lv_aload_n hx hb dX11_prove_85 rfl (lv_at hl 1 rfl) ?_
            refine rg hf hk hw hinX11 0 rfl rfl 0 (by decide) w_0 rfl dX11_prove_86 ?_
            refine mcS hf hk hst hw (c_X11_copies l g ol os (mR stp laws z cnt fogs arms kinds faiths places moved) (mR (stp + k) laws z cnt fogs arms kinds ((stA laws fogs arms kinds cnt stp faiths places moved k).1) ((stA laws fogs arms kinds cnt stp faiths places moved k).2.1) ((stA laws fogs arms kinds cnt stp faiths places moved k).2.2))) (va_cwS 2 hts gX11_prove_X11_copies rfl rfl rfl hdS_X11_copies ⟨Nat.le_of_ble_eq_true rfl, Nat.le_of_ble_eq_true rfl⟩) [2, 1] rfl rfl rfl hl.1 rfl (Nat.le_of_ble_eq_true rfl) dX11_prove_89 ⟨Nat.zero_le _, Nat.zero_le _⟩ (W' := [cob oh 11 [.ref os, .ref ok, .ref ol, .ref ord, .int isk, .ref odd, .ref otp, .int (nI tpd), .ref olt, .int oat, .int obg, .int otk, .int ovl, .ref orw, .int (nI rmn), .ref oso, .ref osz, .ref oit, .ref oho, .ref ohe, .ref otr, .int (nI tcd), .int own_, .int opt], cin g os 51 (mR stp laws z cnt fogs arms kinds faiths places moved), cin g ol 51 (mR stp laws z cnt fogs arms kinds faiths places moved), cin g odd 8 de, cin g orw 30 rw]) rfl (fun H locs hw => ?_)
            refine lv_aload_n hx hb dX11_prove_92 rfl (lv_at hl 1 rfl) ?_
            refine lv_iload_n hx hb dX11_prove_93 rfl (lv_at hl 3 rfl) ?_
            refine lv_tope (y := nI (ix n)) hn.1 ?_
            refine rp hf hk hw hinX11 tyX11 tyX11_ok nmX11 0 rfl rfl 14 (by decide) w_2 rfl (rfl) rfl (Nat.le_of_ble_eq_true rfl) dX11_prove_94 (W' := [cob oh 11 [.ref os, .ref ok, .ref ol, .ref ord, .int isk, .ref odd, .ref otp, .int (nI tpd), .ref olt, .int oat, .int obg, .int otk, .int ovl, .ref orw, .int (nI (ix n)), .ref oso, .ref osz, .ref oit, .ref oho, .ref ohe, .ref otr, .int (nI tcd), .int own_, .int opt], cin g os 51 (mR stp laws z cnt fogs arms kinds faiths places moved), cin g ol 51 (mR stp laws z cnt fogs arms kinds faiths places moved), cin g odd 8 de, cin g orw 30 rw]) rfl (fun H locs hw => ?_)
            refine lv_iload_n hx hb dX11_prove_97 rfl (lv_at hl 3 rfl) ?_
            refine lv_tope (y := nI (ix n)) hn.1 ?_
            rw [hkE] at erw
            exact rE_i hf hr hlk hw ⟨congrArg some (by simp only [if_neg c_1, if_pos (nO_1 c_2)]), (mR stp laws z cnt fogs arms kinds faiths places moved), de, by simp only [if_neg c_1, if_pos (nO_1 c_2), erw]⟩ (show ([oh, os, ol, odd, orw] : List Nat) = [oh, os, ol, odd, orw] from rfl) dX11_prove_98
          · have hkE : k < ix n := Nat.not_le.mp (fun h => c_4 ((nI_leI (by omega) (by omega)).mpr h))
            refine lv_aload_n hx hb dX11_prove_38 rfl (lv_at hl 1 rfl) ?_
            refine mcV hf hk hst hw (c_X11_step1 l g oh os ok ol ord odd otp olt orw oso osz oit oho ohe otr (stp + k) laws z cnt fogs arms kinds ((stA laws fogs arms kinds cnt stp faiths places moved k).1) ((stA laws fogs arms kinds cnt stp faiths places moved k).2.1) ((stA laws fogs arms kinds cnt stp faiths places moved k).2.2) isk tpd oat obg otk ovl rmn tcd own_ opt de (by omega) (by omega) ((stA_ok hpl hmo_ k).1) ((stA_ok hpl hmo_ k).2)) (cwV 0 hts gX11_prove_X11_step1 rfl rfl rfl hdV_X11_step1 ⟨Nat.le_of_ble_eq_true rfl, Nat.le_of_ble_eq_true rfl⟩) [0, 1, 3] rfl rfl 0 rfl rfl rfl hl.1 rfl (Nat.le_of_ble_eq_true rfl) dX11_prove_39 ⟨Nat.zero_le _, Nat.zero_le _⟩ (W' := [cob oh 11 [.ref os, .ref ok, .ref ol, .ref ord, .int isk, .ref odd, .ref otp, .int (nI tpd), .ref olt, .int oat, .int obg, .int otk, .int ovl, .ref orw, .int (nI rmn), .ref oso, .ref osz, .ref oit, .ref oho, .ref ohe, .ref otr, .int (nI tcd), .int own_, .int opt], cin g os 51 (mR ((stp + k) + 1) laws z cnt fogs arms kinds (goF laws fogs arms (stp + k) kinds ((stA laws fogs arms kinds cnt stp faiths places moved k).1) ((stA laws fogs arms kinds cnt stp faiths places moved k).2.1) cnt) (goP laws fogs arms (stp + k) kinds ((stA laws fogs arms kinds cnt stp faiths places moved k).1) ((stA laws fogs arms kinds cnt stp faiths places moved k).2.1) cnt) (goM laws fogs arms (stp + k) kinds ((stA laws fogs arms kinds cnt stp faiths places moved k).2.1) ((stA laws fogs arms kinds cnt stp faiths places moved k).2.2) cnt)), cin g ol 51 (mR stp laws z cnt fogs arms kinds faiths places moved), cin g odd 8 (goE laws fogs arms (stp + k) kinds ((stA laws fogs arms kinds cnt stp faiths places moved k).1) ((stA laws fogs arms kinds cnt stp faiths places moved k).2.1) de cnt), cin g orw 30 rw]) rfl (fun H locs hw => ?_)
            refine lv_iconst (v := 0) hx hb dX11_prove_42 (by decide) ?_
            refine lv_istore (lv' := [(4, .int 0), (3, .int (nI k)), (0, .ref oh), (1, .int goer), (2, .int n)]) hx hb dX11_prove_43 hl (by decide) rfl (fun ls hl => ?_)
            have lp_45_4 : ∀ (fu pp : Nat) (rp_ : Nat → Int32), pp ≤ 3 → 3 + 1 ≤ pp + fu → (rp_ = cpT rws (rowRV laws fogs arms kinds cnt stp faiths places moved (ix goer)) (3 * k + pp)) → ∀ (H : Heap) (locs : List Loc), hv g (va_I [cob oh 11 [.ref os, .ref ok, .ref ol, .ref ord, .int isk, .ref odd, .ref otp, .int (nI tpd), .ref olt, .int oat, .int obg, .int otk, .int ovl, .ref orw, .int (nI rmn), .ref oso, .ref osz, .ref oit, .ref oho, .ref ohe, .ref otr, .int (nI tcd), .int own_, .int opt], cin g os 51 (mR stp laws z cnt fogs arms kinds faiths places moved), cin g ol 51 lr, cin g odd 8 dd, cin g orw 30 rws]) s H locs [cob oh 11 [.ref os, .ref ok, .ref ol, .ref ord, .int isk, .ref odd, .ref otp, .int (nI tpd), .ref olt, .int oat, .int obg, .int otk, .int ovl, .ref orw, .int (nI rmn), .ref oso, .ref osz, .ref oit, .ref oho, .ref ohe, .ref otr, .int (nI tcd), .int own_, .int opt], cin g os 51 (mR ((stp + k) + 1) laws z cnt fogs arms kinds (goF laws fogs arms (stp + k) kinds ((stA laws fogs arms kinds cnt stp faiths places moved k).1) ((stA laws fogs arms kinds cnt stp faiths places moved k).2.1) cnt) (goP laws fogs arms (stp + k) kinds ((stA laws fogs arms kinds cnt stp faiths places moved k).1) ((stA laws fogs arms kinds cnt stp faiths places moved k).2.1) cnt) (goM laws fogs arms (stp + k) kinds ((stA laws fogs arms kinds cnt stp faiths places moved k).2.1) ((stA laws fogs arms kinds cnt stp faiths places moved k).2.2) cnt)), cin g ol 51 (mR stp laws z cnt fogs arms kinds faiths places moved), cin g odd 8 (goE laws fogs arms (stp + k) kinds ((stA laws fogs arms kinds cnt stp faiths places moved k).1) ((stA laws fogs arms kinds cnt stp faiths places moved k).2.1) de cnt), cin g orw 30 rp_] → ∀ ls : Array Slot, lv_has ls 5 [(4, .int (nI pp)), (3, .int (nI k)), (0, .ref oh), (1, .int goer), (2, .int n)] → W p l e rmX11_prove s m ([.ref oh, .int goer, .int n] : List Value).toArray below meth c H locs 0 0 (MQ below (mtS g [cob oh 11 [.ref os, .ref ok, .ref ol, .ref ord, .int isk, .ref odd, .ref otp, .int (nI tpd), .ref olt, .int oat, .int obg, .int otk, .int ovl, .ref orw, .int (nI rmn), .ref oso, .ref osz, .ref oit, .ref oho, .ref ohe, .ref otr, .int (nI tcd), .int own_, .int opt], cin g os 51 (mR stp laws z cnt fogs arms kinds faiths places moved), cin g ol 51 lr, cin g odd 8 dd, cin g orw 30 rws] (fun rv W => rv = (some (.int (if f_X8_has cnt goer = 0 then -1 else if f_X10_isOutside n 1 10 = 0 then nI (ix n) else -1))) ∧ ∃ (j0 : Nat → Int32) (j1 : Nat → Int32), W = [cob oh 11 [.ref os, .ref ok, .ref ol, .ref ord, .int isk, .ref odd, .ref otp, .int (nI tpd), .ref olt, .int oat, .int obg, .int otk, .int ovl, .ref orw, .int (nI (if f_X8_has cnt goer = 0 then rmn else if f_X10_isOutside n 1 10 = 0 then ix n else rmn)), .ref oso, .ref osz, .ref oit, .ref oho, .ref ohe, .ref otr, .int (nI tcd), .int own_, .int opt], cin g os 51 (mR stp laws z cnt fogs arms kinds faiths places moved), cin g ol 51 j0, cin g odd 8 j1, cin g orw 30 (if f_X8_has cnt goer = 0 then rws else if f_X10_isOutside n 1 10 = 0 then cpT rws (rowRV laws fogs arms kinds cnt stp faiths places moved (ix goer)) (3 * ix n) else rws)])) ([.ref oh, .int goer, .int n] : List Value).toArray s 0 0 (va_I [cob oh 11 [.ref os, .ref ok, .ref ol, .ref ord, .int isk, .ref odd, .ref otp, .int (nI tpd), .ref olt, .int oat, .int obg, .int otk, .int ovl, .ref orw, .int (nI rmn), .ref oso, .ref osz, .ref oit, .ref oho, .ref ohe, .ref otr, .int (nI tcd), .int own_, .int opt], cin g os 51 (mR stp laws z cnt fogs arms kinds faiths places moved), cin g ol 51 lr, cin g odd 8 dd, cin g orw 30 rws])) (F0 m 45 ls []) := by
              intro fu
              induction fu with
              | zero =>
                intro pp rp_ h1 h2
                exact absurd h2 (by omega)
              | succ fu ih_45 =>
                intro pp rp_ hk1_45 hk2_45 erp H locs hw ls hl
                refine lv_iload hx hb dX11_prove_45 (lv_at hl 0 rfl) ?_
                refine lv_iconst (v := 3) hx hb dX11_prove_47 (by decide) ?_
                refine lv_icmp_ge (tgt := 75) hx hb dX11_prove_48 (by decide) (fun c_6 => ?_) (fun c_6 => ?_)
                · have hpE : pp = 3 := Nat.le_antisymm hk1_45 ((nI_leI (a := 3) (by omega) (by omega)).mp c_6)
                  refine lv_iinc (v := nI (k + 1)) (lv' := [(3, .int (nI (k + 1))), (4, .int (nI pp)), (0, .ref oh), (1, .int goer), (2, .int n)]) hx hb dX11_prove_75 hl (k := 1) rfl (nI_1 _) (by decide) rfl (fun ls hl => ?_)
                  refine lv_goto (tgt := 33) hx hb dX11_prove_78 (by decide) ?_
                  have e_1 : mR ((stp + k) + 1) laws z cnt fogs arms kinds (goF laws fogs arms (stp + k) kinds ((stA laws fogs arms kinds cnt stp faiths places moved k).1) ((stA laws fogs arms kinds cnt stp faiths places moved k).2.1) cnt) (goP laws fogs arms (stp + k) kinds ((stA laws fogs arms kinds cnt stp faiths places moved k).1) ((stA laws fogs arms kinds cnt stp faiths places moved k).2.1) cnt) (goM laws fogs arms (stp + k) kinds ((stA laws fogs arms kinds cnt stp faiths places moved k).2.1) ((stA laws fogs arms kinds cnt stp faiths places moved k).2.2) cnt) = mR (stp + (k + 1)) laws z cnt fogs arms kinds ((stA laws fogs arms kinds cnt stp faiths places moved (k + 1)).1) ((stA laws fogs arms kinds cnt stp faiths places moved (k + 1)).2.1) ((stA laws fogs arms kinds cnt stp faiths places moved (k + 1)).2.2) := rfl
                  rw [e_1] at hw
                  exact ih_33 (k + 1) (goE laws fogs arms (stp + k) kinds ((stA laws fogs arms kinds cnt stp faiths places moved k).1) ((stA laws fogs arms kinds cnt stp faiths places moved k).2.1) de cnt) rp_ (by omega) (by omega) (by rw [erp, hpE, show 3 * (k + 1) = 3 * k + 3 by omega]) _ _ hw _ (lv_sub hl [0, 2, 3, 4] rfl)
                · have hpE : pp < 3 := Nat.not_le.mp (fun h => c_6 ((nI_leI (a := 3) (by omega) (by omega)).mpr h))
                  refine lv_aload_n hx hb dX11_prove_51 rfl (lv_at hl 2 rfl) ?_
                  refine rg hf hk hw hinX11 0 rfl rfl 13 (by decide) w_3 rfl dX11_prove_52 ?_
                  refine lv_iconst (v := 3) hx hb dX11_prove_55 (by decide) ?_
                  refine lv_iload_n hx hb dX11_prove_56 rfl (lv_at hl 1 rfl) ?_
                  refine lv_imul hx hb dX11_prove_57 ?_
                  refine lv_tope (y := nI (3 * k)) (pk_mul 3 _) ?_
                  refine lv_iload hx hb dX11_prove_58 (lv_at hl 0 rfl) ?_
                  refine lv_iadd hx hb dX11_prove_60 ?_
                  refine lv_tope (y := nI (3 * k + pp)) (nI_add _ _) ?_
                  refine lv_aload_n hx hb dX11_prove_61 rfl (lv_at hl 2 rfl) ?_
                  refine lv_iload_n hx hb dX11_prove_62 rfl (lv_at hl 3 rfl) ?_
                  refine lv_tope (y := nI (ix goer)) hg.1 ?_
                  refine lv_iload hx hb dX11_prove_63 (lv_at hl 0 rfl) ?_
                  refine mcV hf hk hst hw (c_X11_rowNow l g oh os ok ol ord odd otp olt orw oso osz oit oho ohe otr ((stp + k) + 1) laws z cnt fogs arms kinds (goF laws fogs arms (stp + k) kinds ((stA laws fogs arms kinds cnt stp faiths places moved k).1) ((stA laws fogs arms kinds cnt stp faiths places moved k).2.1) cnt) (goP laws fogs arms (stp + k) kinds ((stA laws fogs arms kinds cnt stp faiths places moved k).1) ((stA laws fogs arms kinds cnt stp faiths places moved k).2.1) cnt) (goM laws fogs arms (stp + k) kinds ((stA laws fogs arms kinds cnt stp faiths places moved k).2.1) ((stA laws fogs arms kinds cnt stp faiths places moved k).2.2) cnt) isk tpd oat obg otk ovl rmn tcd own_ opt (ix goer) (nI pp) (by omega) (hg2) ((stA_ok hpl hmo_ (k + 1)).1)) (cwV 2 hts gX11_prove_X11_rowNow rfl rfl rfl hdV_X11_rowNow ⟨Nat.le_of_ble_eq_true rfl, Nat.le_of_ble_eq_true rfl⟩) [0, 1] rfl rfl 0 rfl rfl rfl hl.1 rfl (Nat.le_of_ble_eq_true rfl) dX11_prove_65 ⟨Nat.zero_le _, Nat.zero_le _⟩ (W' := [cob oh 11 [.ref os, .ref ok, .ref ol, .ref ord, .int isk, .ref odd, .ref otp, .int (nI tpd), .ref olt, .int oat, .int obg, .int otk, .int ovl, .ref orw, .int (nI rmn), .ref oso, .ref osz, .ref oit, .ref oho, .ref ohe, .ref otr, .int (nI tcd), .int own_, .int opt], cin g os 51 (mR ((stp + k) + 1) laws z cnt fogs arms kinds (goF laws fogs arms (stp + k) kinds ((stA laws fogs arms kinds cnt stp faiths places moved k).1) ((stA laws fogs arms kinds cnt stp faiths places moved k).2.1) cnt) (goP laws fogs arms (stp + k) kinds ((stA laws fogs arms kinds cnt stp faiths places moved k).1) ((stA laws fogs arms kinds cnt stp faiths places moved k).2.1) cnt) (goM laws fogs arms (stp + k) kinds ((stA laws fogs arms kinds cnt stp faiths places moved k).2.1) ((stA laws fogs arms kinds cnt stp faiths places moved k).2.2) cnt)), cin g ol 51 (mR stp laws z cnt fogs arms kinds faiths places moved), cin g odd 8 (goE laws fogs arms (stp + k) kinds ((stA laws fogs arms kinds cnt stp faiths places moved k).1) ((stA laws fogs arms kinds cnt stp faiths places moved k).2.1) de cnt), cin g orw 30 rp_]) rfl (fun H locs hw => ?_)
                  refine lv_tope (y := (rowRV laws fogs arms kinds cnt stp faiths places moved (ix goer)) (3 * k + pp)) (rowRV_c (fun _ _ => rfl) (fun _ _ => rfl) (fun _ _ => rfl) (fun _ _ => rfl) hg2 k pp hpE) ?_
                  refine rsj hf hk hw 4 rfl (j := 3 * k + pp) (vp_in_nI (by omega) (by omega)) (nI_clamp (by omega)) dX11_prove_68 (W' := [cob oh 11 [.ref os, .ref ok, .ref ol, .ref ord, .int isk, .ref odd, .ref otp, .int (nI tpd), .ref olt, .int oat, .int obg, .int otk, .int ovl, .ref orw, .int (nI rmn), .ref oso, .ref osz, .ref oit, .ref oho, .ref ohe, .ref otr, .int (nI tcd), .int own_, .int opt], cin g os 51 (mR ((stp + k) + 1) laws z cnt fogs arms kinds (goF laws fogs arms (stp + k) kinds ((stA laws fogs arms kinds cnt stp faiths places moved k).1) ((stA laws fogs arms kinds cnt stp faiths places moved k).2.1) cnt) (goP laws fogs arms (stp + k) kinds ((stA laws fogs arms kinds cnt stp faiths places moved k).1) ((stA laws fogs arms kinds cnt stp faiths places moved k).2.1) cnt) (goM laws fogs arms (stp + k) kinds ((stA laws fogs arms kinds cnt stp faiths places moved k).2.1) ((stA laws fogs arms kinds cnt stp faiths places moved k).2.2) cnt)), cin g ol 51 (mR stp laws z cnt fogs arms kinds faiths places moved), cin g odd 8 (goE laws fogs arms (stp + k) kinds ((stA laws fogs arms kinds cnt stp faiths places moved k).1) ((stA laws fogs arms kinds cnt stp faiths places moved k).2.1) de cnt), cin g orw 30 (upd rp_ (3 * k + pp) ((rowRV laws fogs arms kinds cnt stp faiths places moved (ix goer)) (3 * k + pp)))]) rfl (fun H locs hw => ?_)
                  refine lv_iinc (v := nI (pp + 1)) (lv' := [(4, .int (nI (pp + 1))), (3, .int (nI k)), (0, .ref oh), (1, .int goer), (2, .int n)]) hx hb dX11_prove_69 hl (k := 0) rfl (nI_1 _) (by decide) rfl (fun ls hl => ?_)
                  refine lv_goto (tgt := 45) hx hb dX11_prove_72 (by decide) ?_
                  exact ih_45 (pp + 1) (upd rp_ (3 * k + pp) ((rowRV laws fogs arms kinds cnt stp faiths places moved (ix goer)) (3 * k + pp))) (by omega) (by omega) (cpT_s erp) _ _ hw _ (lv_sub hl [0, 1, 2, 3, 4] rfl)
            exact lp_45_4 (3 + 1) 0 rw (by omega) (by omega) (erw) _ _ hw _ (lv_sub hl [0, 1, 2, 3, 4] rfl)
      exact lp_33_2 ((ix n) + 1) 0 dd rws (by omega) (by omega) (cpT_0 _ _) _ _ hw _ (lv_sub hl [0, 1, 2, 3] rfl)
    · refine lv_iconst (v := (-1)) hx hb dX11_prove_18 (by decide) ?_
      exact rE_i hf hr hlk hw ⟨congrArg some (by simp only [if_neg c_1, if_neg (nO_0 c_2)]), lr, dd, by simp only [if_neg c_1, if_neg (nO_0 c_2)]⟩ (show ([oh, os, ol, odd, orw] : List Nat) = [oh, os, ol, odd, orw] from rfl) dX11_prove_19
theorem hdV_X11_isRow : yX11_isRow.cls = RX11 ∧ yX11_isRow.cls ≠ "java/lang/invoke/MethodHandle" ∧ yX11_isRow.cls ≠ "java/lang/invoke/VarHandle" ∧ (parseMethodDescriptor yX11_isRow.desc).map (fun d => d.parameters.length) = some 2 := by decide +kernel
def f_X11_row (rmn : Nat) (rws : Nat → Int32) (x : Int32) (what : Int32) : Int32 := if (rwI rmn x what) = 0 then (-9) else (rws (3 * ix x + ix what))
abbrev rmX11_row : Room := { frames := 2, cells := 0, slots := 0, locals := 44 }
set_option maxHeartbeats 4000000 in
set_option maxRecDepth 100000 in
theorem c_X11_row (l : Launch) (g : GG) (oh : Nat) (os : Nat) (ok : Nat) (ol : Nat) (ord : Nat) (odd : Nat) (otp : Nat) (olt : Nat) (orw : Nat) (oso : Nat) (osz : Nat) (oit : Nat) (oho : Nat) (ohe : Nat) (otr : Nat) (isk : Int32) (tpd : Nat) (oat : Int32) (obg : Int32) (otk : Int32) (ovl : Int32) (rmn : Nat) (tcd : Nat) (own_ : Int32) (opt : Int32) (rws : Nat → Int32) (x : Int32) (what : Int32) (h10 : rmn ≤ 10) : mtR l g yX11_row wsX11_row rmX11_row [.ref oh, .int x, .int what] [cob oh 11 [.ref os, .ref ok, .ref ol, .ref ord, .int isk, .ref odd, .ref otp, .int (nI tpd), .ref olt, .int oat, .int obg, .int otk, .int ovl, .ref orw, .int (nI rmn), .ref oso, .ref osz, .ref oit, .ref oho, .ref ohe, .ref otr, .int (nI tcd), .int own_, .int opt], cin g orw 30 rws] (fun rv W => rv = (some (.int (f_X11_row rmn rws x what))) ∧ W = [cob oh 11 [.ref os, .ref ok, .ref ol, .ref ord, .int isk, .ref odd, .ref otp, .int (nI tpd), .ref olt, .int oat, .int obg, .int otk, .int ovl, .ref orw, .int (nI rmn), .ref oso, .ref osz, .ref oit, .ref oho, .ref ohe, .ref otr, .int (nI tcd), .int own_, .int opt], cin g orw 30 rws]) := by
  refine mtR.of (cc := cX11_row) (nL := 3) (ret := (some .int)) (own := RX11) (by decide +kernel) rfl rfl (Nat.le_of_ble_eq_true rfl) (fun p e s m below meth c hf hr hlk _ hk hst hw ls hl => ?_)
  have hx := hf.1
  have hb := hf.2.1
  have hts := hf.2.2.2.2
  have hl : lv_has ls 3 [(0, .ref oh), (1, .int x), (2, .int what)] := hl
  have hinX11 : ∀ w ∈ u_ws RX11 TX11 24, w ∈ wsX11_row := fun w h => List.mem_cons_of_mem _ (List.mem_append_right _ h)
  have w_0 : Cond.fieldLink RX11 32 "LightManModel" "rows" "[I" ∈ wsX11_row := List.mem_of_getElem? (i := 1) rfl
  refine lv_aload_n hx hb dX11_row_0 rfl (lv_at hl 0 rfl) ?_
  refine lv_iload_n hx hb dX11_row_1 rfl (lv_at hl 1 rfl) ?_
  refine lv_iload_n hx hb dX11_row_2 rfl (lv_at hl 2 rfl) ?_
  refine mcV hf hk hst hw (c_X11_isRow l g oh os ok ol ord odd otp olt orw oso osz oit oho ohe otr isk tpd oat obg otk ovl rmn tcd own_ opt x what) (cwV 2 hts gX11_row_X11_isRow rfl rfl rfl hdV_X11_isRow ⟨Nat.le_of_ble_eq_true rfl, Nat.le_of_ble_eq_true rfl⟩) [0] rfl rfl 0 rfl rfl rfl hl.1 rfl (Nat.le_of_ble_eq_true rfl) dX11_row_3 ⟨Nat.zero_le _, Nat.zero_le _⟩ (W' := [cob oh 11 [.ref os, .ref ok, .ref ol, .ref ord, .int isk, .ref odd, .ref otp, .int (nI tpd), .ref olt, .int oat, .int obg, .int otk, .int ovl, .ref orw, .int (nI rmn), .ref oso, .ref osz, .ref oit, .ref oho, .ref ohe, .ref otr, .int (nI tcd), .int own_, .int opt], cin g orw 30 rws]) rfl (fun H locs hw => ?_)
  refine lv_if_eq (tgt := 22) hx hb dX11_row_6 (by decide) (fun c_1 => ?_) (fun c_1 => ?_)
  · refine lv_bipush (v := (-9)) hx hb dX11_row_22 (by decide) ?_
    exact rE_i hf hr hlk hw ⟨congrArg some (by simp only [f_X11_row, if_pos c_1]), rfl⟩ (show ([oh, orw] : List Nat) = [oh, orw] from rfl) dX11_row_24
  · have hpo := part_ok h10 (rwI_1 c_1)
    have hp1 := hpo.1.2
    have hp2 := hpo.2.2
    refine lv_aload_n hx hb dX11_row_9 rfl (lv_at hl 0 rfl) ?_
    refine rg hf hk hw hinX11 0 rfl rfl 13 (by decide) w_0 rfl dX11_row_10 ?_
    refine lv_iconst (v := 3) hx hb dX11_row_13 (by decide) ?_
    refine lv_iload_n hx hb dX11_row_14 rfl (lv_at hl 1 rfl) ?_
    refine lv_tope (y := nI (ix x)) hpo.1.1 ?_
    refine lv_imul hx hb dX11_row_15 ?_
    refine lv_tope (y := nI (3 * ix x)) (pk_mul 3 _) ?_
    refine lv_iload_n hx hb dX11_row_16 rfl (lv_at hl 2 rfl) ?_
    refine lv_tope (y := nI (ix what)) hpo.2.1 ?_
    refine lv_iadd hx hb dX11_row_17 ?_
    refine lv_tope (y := nI (3 * ix x + ix what)) (nI_add _ _) ?_
    refine rij hf hk hw 1 rfl (j := 3 * ix x + ix what) (vp_in_nI (by omega) (by omega)) (nI_clamp (by omega)) dX11_row_18 ?_
    refine lv_goto (tgt := 24) hx hb dX11_row_19 (by decide) ?_
    exact rE_i hf hr hlk hw ⟨congrArg some (by simp only [f_X11_row, if_neg c_1]), rfl⟩ (show ([oh, orw] : List Nat) = [oh, orw] from rfl) dX11_row_24
def f_X11_alterRow (rmn : Nat) (rws : Nat → Int32) (x : Int32) (what : Int32) : Int32 := if (rwI rmn x what) = 0 then (-9) else (rws (3 * ix x + ix what))
def f_X11_alterRow_w1 (rmn : Nat) (rws : Nat → Int32) (x : Int32) (what : Int32) (v : Int32) : Nat → Int32 := if (rwI rmn x what) = 0 then rws else (upd rws (3 * ix x + ix what) v)
abbrev rmX11_alterRow : Room := { frames := 2, cells := 0, slots := 0, locals := 44 }
set_option maxHeartbeats 4000000 in
set_option maxRecDepth 100000 in
theorem c_X11_alterRow (l : Launch) (g : GG) (oh : Nat) (os : Nat) (ok : Nat) (ol : Nat) (ord : Nat) (odd : Nat) (otp : Nat) (olt : Nat) (orw : Nat) (oso : Nat) (osz : Nat) (oit : Nat) (oho : Nat) (ohe : Nat) (otr : Nat) (isk : Int32) (tpd : Nat) (oat : Int32) (obg : Int32) (otk : Int32) (ovl : Int32) (rmn : Nat) (tcd : Nat) (own_ : Int32) (opt : Int32) (rws : Nat → Int32) (x : Int32) (what : Int32) (v : Int32) (h10 : rmn ≤ 10) : mtR l g yX11_alterRow wsX11_alterRow rmX11_alterRow [.ref oh, .int x, .int what, .int v] [cob oh 11 [.ref os, .ref ok, .ref ol, .ref ord, .int isk, .ref odd, .ref otp, .int (nI tpd), .ref olt, .int oat, .int obg, .int otk, .int ovl, .ref orw, .int (nI rmn), .ref oso, .ref osz, .ref oit, .ref oho, .ref ohe, .ref otr, .int (nI tcd), .int own_, .int opt], cin g orw 30 rws] (fun rv W => rv = (some (.int (f_X11_alterRow rmn rws x what))) ∧ W = [cob oh 11 [.ref os, .ref ok, .ref ol, .ref ord, .int isk, .ref odd, .ref otp, .int (nI tpd), .ref olt, .int oat, .int obg, .int otk, .int ovl, .ref orw, .int (nI rmn), .ref oso, .ref osz, .ref oit, .ref oho, .ref ohe, .ref otr, .int (nI tcd), .int own_, .int opt], cin g orw 30 (f_X11_alterRow_w1 rmn rws x what v)]) := by
  refine mtR.of (cc := cX11_alterRow) (nL := 5) (ret := (some .int)) (own := RX11) (by decide +kernel) rfl rfl (Nat.le_of_ble_eq_true rfl) (fun p e s m below meth c hf hr hlk _ hk hst hw ls hl => ?_)
  have hx := hf.1
  have hb := hf.2.1
  have hts := hf.2.2.2.2
  have hl : lv_has ls 5 [(0, .ref oh), (1, .int x), (2, .int what), (3, .int v)] := hl
  have hinX11 : ∀ w ∈ u_ws RX11 TX11 24, w ∈ wsX11_alterRow := fun w h => List.mem_cons_of_mem _ (List.mem_append_right _ h)
  have w_0 : Cond.fieldLink RX11 32 "LightManModel" "rows" "[I" ∈ wsX11_alterRow := List.mem_of_getElem? (i := 1) rfl
  refine lv_aload_n hx hb dX11_alterRow_0 rfl (lv_at hl 0 rfl) ?_
  refine lv_iload_n hx hb dX11_alterRow_1 rfl (lv_at hl 1 rfl) ?_
  refine lv_iload_n hx hb dX11_alterRow_2 rfl (lv_at hl 2 rfl) ?_
  refine mcV hf hk hst hw (c_X11_isRow l g oh os ok ol ord odd otp olt orw oso osz oit oho ohe otr isk tpd oat obg otk ovl rmn tcd own_ opt x what) (cwV 2 hts gX11_alterRow_X11_isRow rfl rfl rfl hdV_X11_isRow ⟨Nat.le_of_ble_eq_true rfl, Nat.le_of_ble_eq_true rfl⟩) [0] rfl rfl 0 rfl rfl rfl hl.1 rfl (Nat.le_of_ble_eq_true rfl) dX11_alterRow_3 ⟨Nat.zero_le _, Nat.zero_le _⟩ (W' := [cob oh 11 [.ref os, .ref ok, .ref ol, .ref ord, .int isk, .ref odd, .ref otp, .int (nI tpd), .ref olt, .int oat, .int obg, .int otk, .int ovl, .ref orw, .int (nI rmn), .ref oso, .ref osz, .ref oit, .ref oho, .ref ohe, .ref otr, .int (nI tcd), .int own_, .int opt], cin g orw 30 rws]) rfl (fun H locs hw => ?_)
  refine lv_if_ne (tgt := 12) hx hb dX11_alterRow_6 (by decide) (fun c_1 => ?_) (fun c_1 => ?_)
  · have hpo := part_ok h10 (rwI_1 c_1)
    have hp1 := hpo.1.2
    have hp2 := hpo.2.2
    refine lv_aload_n hx hb dX11_alterRow_12 rfl (lv_at hl 0 rfl) ?_
    refine rg hf hk hw hinX11 0 rfl rfl 13 (by decide) w_0 rfl dX11_alterRow_13 ?_
    refine lv_iconst (v := 3) hx hb dX11_alterRow_16 (by decide) ?_
    refine lv_iload_n hx hb dX11_alterRow_17 rfl (lv_at hl 1 rfl) ?_
    refine lv_tope (y := nI (ix x)) hpo.1.1 ?_
    refine lv_imul hx hb dX11_alterRow_18 ?_
    refine lv_tope (y := nI (3 * ix x)) (pk_mul 3 _) ?_
    refine lv_iload_n hx hb dX11_alterRow_19 rfl (lv_at hl 2 rfl) ?_
    refine lv_tope (y := nI (ix what)) hpo.2.1 ?_
    refine lv_iadd hx hb dX11_alterRow_20 ?_
    refine lv_tope (y := nI (3 * ix x + ix what)) (nI_add _ _) ?_
    refine rij hf hk hw 1 rfl (j := 3 * ix x + ix what) (vp_in_nI (by omega) (by omega)) (nI_clamp (by omega)) dX11_alterRow_21 ?_
    refine lv_istore (lv' := [(4, .int (rws (3 * ix x + ix what))), (0, .ref oh), (1, .int x), (2, .int what), (3, .int v)]) hx hb dX11_alterRow_22 hl (by decide) rfl (fun ls hl => ?_)
    refine lv_aload_n hx hb dX11_alterRow_24 rfl (lv_at hl 1 rfl) ?_
    refine rg hf hk hw hinX11 0 rfl rfl 13 (by decide) w_0 rfl dX11_alterRow_25 ?_
    refine lv_iconst (v := 3) hx hb dX11_alterRow_28 (by decide) ?_
    refine lv_iload_n hx hb dX11_alterRow_29 rfl (lv_at hl 2 rfl) ?_
    refine lv_tope (y := nI (ix x)) hpo.1.1 ?_
    refine lv_imul hx hb dX11_alterRow_30 ?_
    refine lv_tope (y := nI (3 * ix x)) (pk_mul 3 _) ?_
    refine lv_iload_n hx hb dX11_alterRow_31 rfl (lv_at hl 3 rfl) ?_
    refine lv_tope (y := nI (ix what)) hpo.2.1 ?_
    refine lv_iadd hx hb dX11_alterRow_32 ?_
    refine lv_tope (y := nI (3 * ix x + ix what)) (nI_add _ _) ?_
    refine lv_iload_n hx hb dX11_alterRow_33 rfl (lv_at hl 4 rfl) ?_
    refine rsj hf hk hw 1 rfl (j := 3 * ix x + ix what) (vp_in_nI (by omega) (by omega)) (nI_clamp (by omega)) dX11_alterRow_34 (W' := [cob oh 11 [.ref os, .ref ok, .ref ol, .ref ord, .int isk, .ref odd, .ref otp, .int (nI tpd), .ref olt, .int oat, .int obg, .int otk, .int ovl, .ref orw, .int (nI rmn), .ref oso, .ref osz, .ref oit, .ref oho, .ref ohe, .ref otr, .int (nI tcd), .int own_, .int opt], cin g orw 30 (upd rws (3 * ix x + ix what) v)]) rfl (fun H locs hw => ?_)
    refine lv_iload hx hb dX11_alterRow_35 (lv_at hl 0 rfl) ?_
    exact rE_i hf hr hlk hw ⟨congrArg some (by simp only [f_X11_alterRow, if_neg c_1]), by simp only [f_X11_alterRow_w1, if_neg c_1]⟩ (show ([oh, orw] : List Nat) = [oh, orw] from rfl) dX11_alterRow_37
  · refine lv_bipush (v := (-9)) hx hb dX11_alterRow_9 (by decide) ?_
    exact rE_i hf hr hlk hw ⟨congrArg some (by simp only [f_X11_alterRow, if_pos c_1]), by simp only [f_X11_alterRow_w1, if_pos c_1]⟩ (show ([oh, orw] : List Nat) = [oh, orw] from rfl) dX11_alterRow_11
def f_X11_trace (tcd : Nat) (trc : Nat → Int32) (x : Int32) : Int32 := if (nO x 0 ((nI tcd) - 1)) = 0 then (-3) else (trc (ix x))
abbrev rmX11_trace : Room := { frames := 1, cells := 0, slots := 0, locals := 22 }
set_option maxHeartbeats 4000000 in
set_option maxRecDepth 100000 in
theorem c_X11_trace (l : Launch) (g : GG) (oh : Nat) (os : Nat) (ok : Nat) (ol : Nat) (ord : Nat) (odd : Nat) (otp : Nat) (olt : Nat) (orw : Nat) (oso : Nat) (osz : Nat) (oit : Nat) (oho : Nat) (ohe : Nat) (otr : Nat) (isk : Int32) (tpd : Nat) (oat : Int32) (obg : Int32) (otk : Int32) (ovl : Int32) (rmn : Nat) (tcd : Nat) (own_ : Int32) (opt : Int32) (trc : Nat → Int32) (x : Int32) (hbg : tcd ≤ 30) : mtR l g yX11_trace wsX11_trace rmX11_trace [.ref oh, .int x] [cob oh 11 [.ref os, .ref ok, .ref ol, .ref ord, .int isk, .ref odd, .ref otp, .int (nI tpd), .ref olt, .int oat, .int obg, .int otk, .int ovl, .ref orw, .int (nI rmn), .ref oso, .ref osz, .ref oit, .ref oho, .ref ohe, .ref otr, .int (nI tcd), .int own_, .int opt], cin g otr 30 trc] (fun rv W => rv = (some (.int (f_X11_trace tcd trc x))) ∧ W = [cob oh 11 [.ref os, .ref ok, .ref ol, .ref ord, .int isk, .ref odd, .ref otp, .int (nI tpd), .ref olt, .int oat, .int obg, .int otk, .int ovl, .ref orw, .int (nI rmn), .ref oso, .ref osz, .ref oit, .ref oho, .ref ohe, .ref otr, .int (nI tcd), .int own_, .int opt], cin g otr 30 trc]) := by
  refine mtR.of (cc := cX11_trace) (nL := 2) (ret := (some .int)) (own := RX11) (by decide +kernel) rfl rfl (Nat.le_of_ble_eq_true rfl) (fun p e s m below meth c hf hr hlk _ hk hst hw ls hl => ?_)
  have hx := hf.1
  have hb := hf.2.1
  have hts := hf.2.2.2.2
  have hl : lv_has ls 2 [(0, .ref oh), (1, .int x)] := hl
  have hinX11 : ∀ w ∈ u_ws RX11 TX11 24, w ∈ wsX11_trace := fun w h => List.mem_cons_of_mem _ (List.mem_append_right _ h)
  have w_0 : Cond.fieldLink RX11 235 "LightManModel" "traced" "I" ∈ wsX11_trace := List.mem_of_getElem? (i := 1) rfl
  have w_1 : Cond.fieldLink RX11 50 "LightManModel" "trace" "[I" ∈ wsX11_trace := List.mem_of_getElem? (i := 2) rfl
  refine lv_iload_n hx hb dX11_trace_0 rfl (lv_at hl 1 rfl) ?_
  refine lv_iconst (v := 0) hx hb dX11_trace_1 (by decide) ?_
  refine lv_aload_n hx hb dX11_trace_2 rfl (lv_at hl 0 rfl) ?_
  refine rg hf hk hw hinX11 0 rfl rfl 21 (by decide) w_0 rfl dX11_trace_3 ?_
  refine lv_iconst (v := 1) hx hb dX11_trace_6 (by decide) ?_
  refine lv_isub hx hb dX11_trace_7 ?_
  refine mcS hf hk hst hw (c_X11_in1 l g x 0 ((nI tcd) - 1)) (va_cwS 3 hts gX11_trace_X11_in1 rfl rfl rfl hdS_X11_in1 ⟨Nat.le_of_ble_eq_true rfl, Nat.le_of_ble_eq_true rfl⟩) [] rfl rfl rfl hl.1 rfl (Nat.le_of_ble_eq_true rfl) dX11_trace_8 ⟨Nat.zero_le _, Nat.zero_le _⟩ (W' := [cob oh 11 [.ref os, .ref ok, .ref ol, .ref ord, .int isk, .ref odd, .ref otp, .int (nI tpd), .ref olt, .int oat, .int obg, .int otk, .int ovl, .ref orw, .int (nI rmn), .ref oso, .ref osz, .ref oit, .ref oho, .ref ohe, .ref otr, .int (nI tcd), .int own_, .int opt], cin g otr 30 trc]) rfl (fun H locs hw => ?_)
  refine lv_if_eq (tgt := 23) hx hb dX11_trace_11 (by decide) (fun c_1 => ?_) (fun c_1 => ?_)
  · refine lv_bipush (v := (-3)) hx hb dX11_trace_23 (by decide) ?_
    exact rE_i hf hr hlk hw ⟨congrArg some (by simp only [f_X11_trace, if_pos c_1]), rfl⟩ (show ([oh, otr] : List Nat) = [oh, otr] from rfl) dX11_trace_25
  · have htr := tr_ok hbg (nO_1 c_1)
    have htr2 := htr.2
    refine lv_aload_n hx hb dX11_trace_14 rfl (lv_at hl 0 rfl) ?_
    refine rg hf hk hw hinX11 0 rfl rfl 20 (by decide) w_1 rfl dX11_trace_15 ?_
    refine lv_iload_n hx hb dX11_trace_18 rfl (lv_at hl 1 rfl) ?_
    refine lv_tope (y := nI (ix x)) htr.1 ?_
    refine rij hf hk hw 1 rfl (j := ix x) (vp_in_nI (by omega) (by omega)) (nI_clamp (by omega)) dX11_trace_19 ?_
    refine lv_goto (tgt := 25) hx hb dX11_trace_20 (by decide) ?_
    exact rE_i hf hr hlk hw ⟨congrArg some (by simp only [f_X11_trace, if_neg c_1]), rfl⟩ (show ([oh, otr] : List Nat) = [oh, otr] from rfl) dX11_trace_25
abbrev rmX11_judge : Room := { frames := 6, cells := 0, slots := 0, locals := 132 }
set_option maxHeartbeats 4000000 in
set_option maxRecDepth 100000 in
theorem c_X11_judge (l : Launch) (g : GG) (oh : Nat) (os : Nat) (ok : Nat) (ol : Nat) (ord : Nat) (odd : Nat) (otp : Nat) (olt : Nat) (orw : Nat) (oso : Nat) (osz : Nat) (oit : Nat) (oho : Nat) (ohe : Nat) (otr : Nat) (stp : Nat) (laws : Nat → Int32) (z : Int32) (cnt : Nat) (fogs : Nat → Int32) (arms : Nat → Int32) (kinds : Nat → Int32) (faiths : Nat → Int32) (places : Nat → Int32) (moved : Nat → Int32) (isk : Int32) (tpd : Nat) (oat : Int32) (obg : Int32) (otk : Int32) (ovl : Int32) (rmn : Nat) (tcd : Nat) (own_ : Int32) (opt : Int32) (lr : Nat → Int32) (dd : Nat → Int32) (rws : Nat → Int32) (goer : Int32) (hc8 : cnt ≤ 8) (hsp : stp < 2 ^ 29) (hpl : ∀ j, j < cnt → plOk (places j)) (hmo_ : ∀ j, j < cnt → moOk (moved j)) (h10 : rmn ≤ 10) : mtR l g yX11_judge wsX11_judge rmX11_judge [.ref oh, .int goer] [cob oh 11 [.ref os, .ref ok, .ref ol, .ref ord, .int isk, .ref odd, .ref otp, .int (nI tpd), .ref olt, .int oat, .int obg, .int otk, .int ovl, .ref orw, .int (nI rmn), .ref oso, .ref osz, .ref oit, .ref oho, .ref ohe, .ref otr, .int (nI tcd), .int own_, .int opt], cin g os 51 (mR stp laws z cnt fogs arms kinds faiths places moved), cin g ol 51 lr, cin g odd 8 dd, cin g orw 30 rws] (fun rv W => rv = (some (.int (if f_X8_has cnt goer = 0 then -1 else jdR rws (rowRV laws fogs arms kinds cnt stp faiths places moved (ix goer)) (3 * rmn) 0))) ∧ ∃ (j0 : Nat → Int32) (j1 : Nat → Int32), W = [cob oh 11 [.ref os, .ref ok, .ref ol, .ref ord, .int isk, .ref odd, .ref otp, .int (nI tpd), .ref olt, .int oat, .int obg, .int otk, .int ovl, .ref orw, .int (nI rmn), .ref oso, .ref osz, .ref oit, .ref oho, .ref ohe, .ref otr, .int (nI tcd), .int own_, .int opt], cin g os 51 (mR stp laws z cnt fogs arms kinds faiths places moved), cin g ol 51 j0, cin g odd 8 j1, cin g orw 30 rws]) := by
  refine mtR.of (cc := cX11_judge) (nL := 6) (ret := (some .int)) (own := RX11) (by decide +kernel) rfl rfl (Nat.le_of_ble_eq_true rfl) (fun p e s m below meth c hf hr hlk _ hk hst hw ls hl => ?_)
  have hx := hf.1
  have hb := hf.2.1
  have hts := hf.2.2.2.2
  have hl : lv_has ls 6 [(0, .ref oh), (1, .int goer)] := hl
  have hinX11 : ∀ w ∈ u_ws RX11 TX11 24, w ∈ wsX11_judge := fun w h => List.mem_cons_of_mem _ (List.mem_append_right _ h)
  have w_0 : Cond.fieldLink RX11 9 "LightManModel" "s" "[I" ∈ wsX11_judge := List.mem_of_getElem? (i := 1) rfl
  have w_1 : Cond.fieldLink RX11 16 "LightManModel" "laid" "[I" ∈ wsX11_judge := List.mem_of_getElem? (i := 2) rfl
  have w_2 : Cond.fieldLink RX11 162 "LightManModel" "rowMany" "I" ∈ wsX11_judge := List.mem_of_getElem? (i := 3) rfl
  have w_3 : Cond.fieldLink RX11 32 "LightManModel" "rows" "[I" ∈ wsX11_judge := List.mem_of_getElem? (i := 4) rfl
  refine lv_aload_n hx hb dX11_judge_0 rfl (lv_at hl 0 rfl) ?_
  refine lv_iload_n hx hb dX11_judge_1 rfl (lv_at hl 1 rfl) ?_
  refine mcV hf hk hst hw (c_X11_isGoer l g oh os ok ol ord odd otp olt orw oso osz oit oho ohe otr stp laws z cnt fogs arms kinds faiths places moved isk tpd oat obg otk ovl rmn tcd own_ opt goer (by omega)) (cwV 1 hts gX11_judge_X11_isGoer rfl rfl rfl hdV_X11_isGoer ⟨Nat.le_of_ble_eq_true rfl, Nat.le_of_ble_eq_true rfl⟩) [0, 1] rfl rfl 0 rfl rfl rfl hl.1 rfl (Nat.le_of_ble_eq_true rfl) dX11_judge_2 ⟨Nat.zero_le _, Nat.zero_le _⟩ (W' := [cob oh 11 [.ref os, .ref ok, .ref ol, .ref ord, .int isk, .ref odd, .ref otp, .int (nI tpd), .ref olt, .int oat, .int obg, .int otk, .int ovl, .ref orw, .int (nI rmn), .ref oso, .ref osz, .ref oit, .ref oho, .ref ohe, .ref otr, .int (nI tcd), .int own_, .int opt], cin g os 51 (mR stp laws z cnt fogs arms kinds faiths places moved), cin g ol 51 lr, cin g odd 8 dd, cin g orw 30 rws]) rfl (fun H locs hw => ?_)
  refine lv_if_ne (tgt := 10) hx hb dX11_judge_5 (by decide) (fun c_1 => ?_) (fun c_1 => ?_)
  · have hg := has_n hc8 c_1
    have hg2 := hg.2
    refine lv_aload_n hx hb dX11_judge_10 rfl (lv_at hl 0 rfl) ?_
    refine rg hf hk hw hinX11 0 rfl rfl 0 (by decide) w_0 rfl dX11_judge_11 ?_
    refine lv_aload_n hx hb dX11_judge_14 rfl (lv_at hl 0 rfl) ?_
    refine rg hf hk hw hinX11 0 rfl rfl 2 (by decide) w_1 rfl dX11_judge_15 ?_
    refine mcS hf hk hst hw (c_X11_copies l g os ol (mR stp laws z cnt fogs arms kinds faiths places moved) lr) (va_cwS 2 hts gX11_judge_X11_copies rfl rfl rfl hdS_X11_copies ⟨Nat.le_of_ble_eq_true rfl, Nat.le_of_ble_eq_true rfl⟩) [1, 2] rfl rfl rfl hl.1 rfl (Nat.le_of_ble_eq_true rfl) dX11_judge_18 ⟨Nat.zero_le _, Nat.zero_le _⟩ (W' := [cob oh 11 [.ref os, .ref ok, .ref ol, .ref ord, .int isk, .ref odd, .ref otp, .int (nI tpd), .ref olt, .int oat, .int obg, .int otk, .int ovl, .ref orw, .int (nI rmn), .ref oso, .ref osz, .ref oit, .ref oho, .ref ohe, .ref otr, .int (nI tcd), .int own_, .int opt], cin g os 51 (mR stp laws z cnt fogs arms kinds faiths places moved), cin g ol 51 (mR stp laws z cnt fogs arms kinds faiths places moved), cin g odd 8 dd, cin g orw 30 rws]) rfl (fun H locs hw => ?_)
    refine lv_iconst (v := 0) hx hb dX11_judge_21 (by decide) ?_
    refine lv_istore_n (lv' := [(2, .int 0), (0, .ref oh), (1, .int goer)]) hx hb dX11_judge_22 rfl hl (by decide) rfl (fun ls hl => ?_)
    refine lv_iconst (v := 0) hx hb dX11_judge_23 (by decide) ?_
    refine lv_istore_n (lv' := [(3, .int 0), (2, .int 0), (0, .ref oh), (1, .int goer)]) hx hb dX11_judge_24 rfl hl (by decide) rfl (fun ls hl => ?_)
    have lp_25_1 : ∀ (fu k : Nat) (wr_ : Int32) (de : Nat → Int32), k ≤ rmn → rmn + 1 ≤ k + fu → ((wr_ = 0 ∧ jdR rws (rowRV laws fogs arms kinds cnt stp faiths places moved (ix goer)) (3 * rmn) 0 = jdR rws (rowRV laws fogs arms kinds cnt stp faiths places moved (ix goer)) (3 * rmn - 3 * k) (3 * k)) ∨ (¬ wr_ = 0 ∧ jdR rws (rowRV laws fogs arms kinds cnt stp faiths places moved (ix goer)) (3 * rmn) 0 = wr_)) → ∀ (H : Heap) (locs : List Loc), hv g (va_I [cob oh 11 [.ref os, .ref ok, .ref ol, .ref ord, .int isk, .ref odd, .ref otp, .int (nI tpd), .ref olt, .int oat, .int obg, .int otk, .int ovl, .ref orw, .int (nI rmn), .ref oso, .ref osz, .ref oit, .ref oho, .ref ohe, .ref otr, .int (nI tcd), .int own_, .int opt], cin g os 51 (mR stp laws z cnt fogs arms kinds faiths places moved), cin g ol 51 lr, cin g odd 8 dd, cin g orw 30 rws]) s H locs [cob oh 11 [.ref os, .ref ok, .ref ol, .ref ord, .int isk, .ref odd, .ref otp, .int (nI tpd), .ref olt, .int oat, .int obg, .int otk, .int ovl, .ref orw, .int (nI rmn), .ref oso, .ref osz, .ref oit, .ref oho, .ref ohe, .ref otr, .int (nI tcd), .int own_, .int opt], cin g os 51 (mR (stp + k) laws z cnt fogs arms kinds ((stA laws fogs arms kinds cnt stp faiths places moved k).1) ((stA laws fogs arms kinds cnt stp faiths places moved k).2.1) ((stA laws fogs arms kinds cnt stp faiths places moved k).2.2)), cin g ol 51 (mR stp laws z cnt fogs arms kinds faiths places moved), cin g odd 8 de, cin g orw 30 rws] → ∀ ls : Array Slot, lv_has ls 6 [(3, .int (nI k)), (2, .int wr_), (0, .ref oh), (1, .int goer)] → W p l e rmX11_judge s m ([.ref oh, .int goer] : List Value).toArray below meth c H locs 0 0 (MQ below (mtS g [cob oh 11 [.ref os, .ref ok, .ref ol, .ref ord, .int isk, .ref odd, .ref otp, .int (nI tpd), .ref olt, .int oat, .int obg, .int otk, .int ovl, .ref orw, .int (nI rmn), .ref oso, .ref osz, .ref oit, .ref oho, .ref ohe, .ref otr, .int (nI tcd), .int own_, .int opt], cin g os 51 (mR stp laws z cnt fogs arms kinds faiths places moved), cin g ol 51 lr, cin g odd 8 dd, cin g orw 30 rws] (fun rv W => rv = (some (.int (if f_X8_has cnt goer = 0 then -1 else jdR rws (rowRV laws fogs arms kinds cnt stp faiths places moved (ix goer)) (3 * rmn) 0))) ∧ ∃ (j0 : Nat → Int32) (j1 : Nat → Int32), W = [cob oh 11 [.ref os, .ref ok, .ref ol, .ref ord, .int isk, .ref odd, .ref otp, .int (nI tpd), .ref olt, .int oat, .int obg, .int otk, .int ovl, .ref orw, .int (nI rmn), .ref oso, .ref osz, .ref oit, .ref oho, .ref ohe, .ref otr, .int (nI tcd), .int own_, .int opt], cin g os 51 (mR stp laws z cnt fogs arms kinds faiths places moved), cin g ol 51 j0, cin g odd 8 j1, cin g orw 30 rws])) ([.ref oh, .int goer] : List Value).toArray s 0 0 (va_I [cob oh 11 [.ref os, .ref ok, .ref ol, .ref ord, .int isk, .ref odd, .ref otp, .int (nI tpd), .ref olt, .int oat, .int obg, .int otk, .int ovl, .ref orw, .int (nI rmn), .ref oso, .ref osz, .ref oit, .ref oho, .ref ohe, .ref otr, .int (nI tcd), .int own_, .int opt], cin g os 51 (mR stp laws z cnt fogs arms kinds faiths places moved), cin g ol 51 lr, cin g odd 8 dd, cin g orw 30 rws])) (F0 m 25 ls []) := by
      intro fu
      induction fu with
      | zero =>
        intro k wr_ de h1 h2
        exact absurd h2 (by omega)
      | succ fu ih_25 =>
        intro k wr_ de hk1_25 hk2_25 eW H locs hw ls hl
        refine lv_iload_n hx hb dX11_judge_25 rfl (lv_at hl 0 rfl) ?_
        refine lv_aload_n hx hb dX11_judge_26 rfl (lv_at hl 2 rfl) ?_
        refine rg hf hk hw hinX11 0 rfl rfl 14 (by decide) w_2 rfl dX11_judge_27 ?_
        refine lv_icmp_ge (tgt := 111) hx hb dX11_judge_30 (by decide) (fun c_3 => ?_) (fun c_3 => ?_)
        · have hkE : k = rmn := Nat.le_antisymm hk1_25 ((nI_leI (by omega) (by omega)).mp c_3)
          have hfin : wr_ = jdR rws (rowRV laws fogs arms kinds cnt stp faiths places moved (ix goer)) (3 * rmn) 0 := by rcases eW with h | h; rw [h.1, h.2, hkE, Nat.sub_self]; rfl; exact h.2.symm
          refine lv_aload_n hx hb dX11_judge_111 rfl (lv_at hl 2 rfl) ?_
          refine rg hf hk hw hinX11 0 rfl rfl 2 (by decide) w_1 rfl dX11_judge_112 ?_
          refine lv_aload_n hx hb dX11_judge_115 rfl (lv_at hl 2 rfl) ?_
          refine rg hf hk hw hinX11 0 rfl rfl 0 (by decide) w_0 rfl dX11_judge_116 ?_
          refine mcS hf hk hst hw (c_X11_copies l g ol os (mR stp laws z cnt fogs arms kinds faiths places moved) (mR (stp + k) laws z cnt fogs arms kinds ((stA laws fogs arms kinds cnt stp faiths places moved k).1) ((stA laws fogs arms kinds cnt stp faiths places moved k).2.1) ((stA laws fogs arms kinds cnt stp faiths places moved k).2.2))) (va_cwS 2 hts gX11_judge_X11_copies rfl rfl rfl hdS_X11_copies ⟨Nat.le_of_ble_eq_true rfl, Nat.le_of_ble_eq_true rfl⟩) [2, 1] rfl rfl rfl hl.1 rfl (Nat.le_of_ble_eq_true rfl) dX11_judge_119 ⟨Nat.zero_le _, Nat.zero_le _⟩ (W' := [cob oh 11 [.ref os, .ref ok, .ref ol, .ref ord, .int isk, .ref odd, .ref otp, .int (nI tpd), .ref olt, .int oat, .int obg, .int otk, .int ovl, .ref orw, .int (nI rmn), .ref oso, .ref osz, .ref oit, .ref oho, .ref ohe, .ref otr, .int (nI tcd), .int own_, .int opt], cin g os 51 (mR stp laws z cnt fogs arms kinds faiths places moved), cin g ol 51 (mR stp laws z cnt fogs arms kinds faiths places moved), cin g odd 8 de, cin g orw 30 rws]) rfl (fun H locs hw => ?_)
          refine lv_iload_n hx hb dX11_judge_122 rfl (lv_at hl 1 rfl) ?_
          exact rE_i hf hr hlk hw ⟨congrArg some (by simp only [if_neg c_1]; exact congrArg Value.int hfin), _, _, rfl⟩ (show ([oh, os, ol, odd, orw] : List Nat) = [oh, os, ol, odd, orw] from rfl) dX11_judge_123
        · have hkE : k < rmn := Nat.not_le.mp (fun h => c_3 ((nI_leI (by omega) (by omega)).mpr h))
          refine lv_iload_n hx hb dX11_judge_33 rfl (lv_at hl 1 rfl) ?_
          refine lv_if_ne (tgt := 111) hx hb dX11_judge_34 (by decide) (fun c_4 => ?_) (fun c_4 => ?_)
          · have hfin : wr_ = jdR rws (rowRV laws fogs arms kinds cnt stp faiths places moved (ix goer)) (3 * rmn) 0 := by rcases eW with h | h; exact absurd h.1 c_4; exact h.2.symm
            refine lv_aload_n hx hb dX11_judge_111 rfl (lv_at hl 2 rfl) ?_
            refine rg hf hk hw hinX11 0 rfl rfl 2 (by decide) w_1 rfl dX11_judge_112 ?_
            refine lv_aload_n hx hb dX11_judge_115 rfl (lv_at hl 2 rfl) ?_
            refine rg hf hk hw hinX11 0 rfl rfl 0 (by decide) w_0 rfl dX11_judge_116 ?_
            refine mcS hf hk hst hw (c_X11_copies l g ol os (mR stp laws z cnt fogs arms kinds faiths places moved) (mR (stp + k) laws z cnt fogs arms kinds ((stA laws fogs arms kinds cnt stp faiths places moved k).1) ((stA laws fogs arms kinds cnt stp faiths places moved k).2.1) ((stA laws fogs arms kinds cnt stp faiths places moved k).2.2))) (va_cwS 2 hts gX11_judge_X11_copies rfl rfl rfl hdS_X11_copies ⟨Nat.le_of_ble_eq_true rfl, Nat.le_of_ble_eq_true rfl⟩) [2, 1] rfl rfl rfl hl.1 rfl (Nat.le_of_ble_eq_true rfl) dX11_judge_119 ⟨Nat.zero_le _, Nat.zero_le _⟩ (W' := [cob oh 11 [.ref os, .ref ok, .ref ol, .ref ord, .int isk, .ref odd, .ref otp, .int (nI tpd), .ref olt, .int oat, .int obg, .int otk, .int ovl, .ref orw, .int (nI rmn), .ref oso, .ref osz, .ref oit, .ref oho, .ref ohe, .ref otr, .int (nI tcd), .int own_, .int opt], cin g os 51 (mR stp laws z cnt fogs arms kinds faiths places moved), cin g ol 51 (mR stp laws z cnt fogs arms kinds faiths places moved), cin g odd 8 de, cin g orw 30 rws]) rfl (fun H locs hw => ?_)
            refine lv_iload_n hx hb dX11_judge_122 rfl (lv_at hl 1 rfl) ?_
            exact rE_i hf hr hlk hw ⟨congrArg some (by simp only [if_neg c_1]; exact congrArg Value.int hfin), _, _, rfl⟩ (show ([oh, os, ol, odd, orw] : List Nat) = [oh, os, ol, odd, orw] from rfl) dX11_judge_123
          · have eR : jdR rws (rowRV laws fogs arms kinds cnt stp faiths places moved (ix goer)) (3 * rmn) 0 = jdR rws (rowRV laws fogs arms kinds cnt stp faiths places moved (ix goer)) (3 * rmn - 3 * k) (3 * k) := by rcases eW with h | h; exact h.2; exact absurd c_4 h.1
            refine lv_aload_n hx hb dX11_judge_37 rfl (lv_at hl 2 rfl) ?_
            refine mcV hf hk hst hw (c_X11_step1 l g oh os ok ol ord odd otp olt orw oso osz oit oho ohe otr (stp + k) laws z cnt fogs arms kinds ((stA laws fogs arms kinds cnt stp faiths places moved k).1) ((stA laws fogs arms kinds cnt stp faiths places moved k).2.1) ((stA laws fogs arms kinds cnt stp faiths places moved k).2.2) isk tpd oat obg otk ovl rmn tcd own_ opt de (by omega) (by omega) ((stA_ok hpl hmo_ k).1) ((stA_ok hpl hmo_ k).2)) (cwV 0 hts gX11_judge_X11_step1 rfl rfl rfl hdV_X11_step1 ⟨Nat.le_of_ble_eq_true rfl, Nat.le_of_ble_eq_true rfl⟩) [0, 1, 3] rfl rfl 0 rfl rfl rfl hl.1 rfl (Nat.le_of_ble_eq_true rfl) dX11_judge_38 ⟨Nat.zero_le _, Nat.zero_le _⟩ (W' := [cob oh 11 [.ref os, .ref ok, .ref ol, .ref ord, .int isk, .ref odd, .ref otp, .int (nI tpd), .ref olt, .int oat, .int obg, .int otk, .int ovl, .ref orw, .int (nI rmn), .ref oso, .ref osz, .ref oit, .ref oho, .ref ohe, .ref otr, .int (nI tcd), .int own_, .int opt], cin g os 51 (mR ((stp + k) + 1) laws z cnt fogs arms kinds (goF laws fogs arms (stp + k) kinds ((stA laws fogs arms kinds cnt stp faiths places moved k).1) ((stA laws fogs arms kinds cnt stp faiths places moved k).2.1) cnt) (goP laws fogs arms (stp + k) kinds ((stA laws fogs arms kinds cnt stp faiths places moved k).1) ((stA laws fogs arms kinds cnt stp faiths places moved k).2.1) cnt) (goM laws fogs arms (stp + k) kinds ((stA laws fogs arms kinds cnt stp faiths places moved k).2.1) ((stA laws fogs arms kinds cnt stp faiths places moved k).2.2) cnt)), cin g ol 51 (mR stp laws z cnt fogs arms kinds faiths places moved), cin g odd 8 (goE laws fogs arms (stp + k) kinds ((stA laws fogs arms kinds cnt stp faiths places moved k).1) ((stA laws fogs arms kinds cnt stp faiths places moved k).2.1) de cnt), cin g orw 30 rws]) rfl (fun H locs hw => ?_)
            refine lv_iconst (v := 1) hx hb dX11_judge_41 (by decide) ?_
            refine lv_istore (lv' := [(4, .int 1), (3, .int (nI k)), (2, .int wr_), (0, .ref oh), (1, .int goer)]) hx hb dX11_judge_42 hl (by decide) rfl (fun ls hl => ?_)
            refine lv_iconst (v := 0) hx hb dX11_judge_44 (by decide) ?_
            refine lv_istore (lv' := [(5, .int 0), (4, .int 1), (3, .int (nI k)), (2, .int wr_), (0, .ref oh), (1, .int goer)]) hx hb dX11_judge_45 hl (by decide) rfl (fun ls hl => ?_)
            have lp_47_4 : ∀ (fu pp : Nat) (is_ : Int32), pp ≤ 3 → 3 + 1 ≤ pp + fu → ((is_ = 1 ∧ jdR rws (rowRV laws fogs arms kinds cnt stp faiths places moved (ix goer)) (3 * rmn) 0 = jdR rws (rowRV laws fogs arms kinds cnt stp faiths places moved (ix goer)) (3 * rmn - (3 * k + pp)) (3 * k + pp)) ∨ (is_ = 0 ∧ jdR rws (rowRV laws fogs arms kinds cnt stp faiths places moved (ix goer)) (3 * rmn) 0 = nI (k + 1))) → ∀ (H : Heap) (locs : List Loc), hv g (va_I [cob oh 11 [.ref os, .ref ok, .ref ol, .ref ord, .int isk, .ref odd, .ref otp, .int (nI tpd), .ref olt, .int oat, .int obg, .int otk, .int ovl, .ref orw, .int (nI rmn), .ref oso, .ref osz, .ref oit, .ref oho, .ref ohe, .ref otr, .int (nI tcd), .int own_, .int opt], cin g os 51 (mR stp laws z cnt fogs arms kinds faiths places moved), cin g ol 51 lr, cin g odd 8 dd, cin g orw 30 rws]) s H locs [cob oh 11 [.ref os, .ref ok, .ref ol, .ref ord, .int isk, .ref odd, .ref otp, .int (nI tpd), .ref olt, .int oat, .int obg, .int otk, .int ovl, .ref orw, .int (nI rmn), .ref oso, .ref osz, .ref oit, .ref oho, .ref ohe, .ref otr, .int (nI tcd), .int own_, .int opt], cin g os 51 (mR ((stp + k) + 1) laws z cnt fogs arms kinds (goF laws fogs arms (stp + k) kinds ((stA laws fogs arms kinds cnt stp faiths places moved k).1) ((stA laws fogs arms kinds cnt stp faiths places moved k).2.1) cnt) (goP laws fogs arms (stp + k) kinds ((stA laws fogs arms kinds cnt stp faiths places moved k).1) ((stA laws fogs arms kinds cnt stp faiths places moved k).2.1) cnt) (goM laws fogs arms (stp + k) kinds ((stA laws fogs arms kinds cnt stp faiths places moved k).2.1) ((stA laws fogs arms kinds cnt stp faiths places moved k).2.2) cnt)), cin g ol 51 (mR stp laws z cnt fogs arms kinds faiths places moved), cin g odd 8 (goE laws fogs arms (stp + k) kinds ((stA laws fogs arms kinds cnt stp faiths places moved k).1) ((stA laws fogs arms kinds cnt stp faiths places moved k).2.1) de cnt), cin g orw 30 rws] → ∀ ls : Array Slot, lv_has ls 6 [(5, .int (nI pp)), (4, .int is_), (3, .int (nI k)), (2, .int wr_), (0, .ref oh), (1, .int goer)] → W p l e rmX11_judge s m ([.ref oh, .int goer] : List Value).toArray below meth c H locs 0 0 (MQ below (mtS g [cob oh 11 [.ref os, .ref ok, .ref ol, .ref ord, .int isk, .ref odd, .ref otp, .int (nI tpd), .ref olt, .int oat, .int obg, .int otk, .int ovl, .ref orw, .int (nI rmn), .ref oso, .ref osz, .ref oit, .ref oho, .ref ohe, .ref otr, .int (nI tcd), .int own_, .int opt], cin g os 51 (mR stp laws z cnt fogs arms kinds faiths places moved), cin g ol 51 lr, cin g odd 8 dd, cin g orw 30 rws] (fun rv W => rv = (some (.int (if f_X8_has cnt goer = 0 then -1 else jdR rws (rowRV laws fogs arms kinds cnt stp faiths places moved (ix goer)) (3 * rmn) 0))) ∧ ∃ (j0 : Nat → Int32) (j1 : Nat → Int32), W = [cob oh 11 [.ref os, .ref ok, .ref ol, .ref ord, .int isk, .ref odd, .ref otp, .int (nI tpd), .ref olt, .int oat, .int obg, .int otk, .int ovl, .ref orw, .int (nI rmn), .ref oso, .ref osz, .ref oit, .ref oho, .ref ohe, .ref otr, .int (nI tcd), .int own_, .int opt], cin g os 51 (mR stp laws z cnt fogs arms kinds faiths places moved), cin g ol 51 j0, cin g odd 8 j1, cin g orw 30 rws])) ([.ref oh, .int goer] : List Value).toArray s 0 0 (va_I [cob oh 11 [.ref os, .ref ok, .ref ol, .ref ord, .int isk, .ref odd, .ref otp, .int (nI tpd), .ref olt, .int oat, .int obg, .int otk, .int ovl, .ref orw, .int (nI rmn), .ref oso, .ref osz, .ref oit, .ref oho, .ref ohe, .ref otr, .int (nI tcd), .int own_, .int opt], cin g os 51 (mR stp laws z cnt fogs arms kinds faiths places moved), cin g ol 51 lr, cin g odd 8 dd, cin g orw 30 rws])) (F0 m 47 ls []) := by
              intro fu
              induction fu with
              | zero =>
                intro pp is_ h1 h2
                exact absurd h2 (by omega)
              | succ fu ih_47 =>
                intro pp is_ hk1_47 hk2_47 eP H locs hw ls hl
                refine lv_iload hx hb dX11_judge_47 (lv_at hl 0 rfl) ?_
                refine lv_iconst (v := 3) hx hb dX11_judge_49 (by decide) ?_
                refine lv_icmp_ge (tgt := 92) hx hb dX11_judge_50 (by decide) (fun c_6 => ?_) (fun c_6 => ?_)
                · have hpE : pp = 3 := Nat.le_antisymm hk1_47 ((nI_leI (a := 3) (by omega) (by omega)).mp c_6)
                  refine lv_iload hx hb dX11_judge_92 (lv_at hl 1 rfl) ?_
                  refine lv_if_eq (tgt := 101) hx hb dX11_judge_94 (by decide) (fun c_7 => ?_) (fun c_7 => ?_)
                  · have hwN : ¬ nI (k + 1) = 0 ∧ jdR rws (rowRV laws fogs arms kinds cnt stp faiths places moved (ix goer)) (3 * rmn) 0 = nI (k + 1) := ⟨nI_ne0 (by omega) (by omega), by rcases eP with h | h; exact absurd (h.1.symm.trans c_7) (by decide); exact h.2⟩
                    have eM : (nI (k + 1) = 0 ∧ jdR rws (rowRV laws fogs arms kinds cnt stp faiths places moved (ix goer)) (3 * rmn) 0 = jdR rws (rowRV laws fogs arms kinds cnt stp faiths places moved (ix goer)) (3 * rmn - 3 * (k + 1)) (3 * (k + 1))) ∨ (¬ nI (k + 1) = 0 ∧ jdR rws (rowRV laws fogs arms kinds cnt stp faiths places moved (ix goer)) (3 * rmn) 0 = nI (k + 1)) := Or.inr hwN
                    refine lv_iconst (v := 1) hx hb dX11_judge_101 (by decide) ?_
                    refine lv_iload_n hx hb dX11_judge_102 rfl (lv_at hl 2 rfl) ?_
                    refine lv_iadd hx hb dX11_judge_103 ?_
                    refine lv_tope (y := nI (k + 1)) (by rw [Int32.add_comm]; exact nI_1 k) ?_
                    refine lv_istore_n (lv' := [(2, .int (nI (k + 1))), (5, .int (nI pp)), (4, .int is_), (3, .int (nI k)), (0, .ref oh), (1, .int goer)]) hx hb dX11_judge_104 rfl hl (by decide) rfl (fun ls hl => ?_)
                    refine lv_iinc (v := nI (k + 1)) (lv' := [(3, .int (nI (k + 1))), (2, .int (nI (k + 1))), (5, .int (nI pp)), (4, .int is_), (0, .ref oh), (1, .int goer)]) hx hb dX11_judge_105 hl (k := 3) rfl (nI_1 _) (by decide) rfl (fun ls hl => ?_)
                    refine lv_goto (tgt := 25) hx hb dX11_judge_108 (by decide) ?_
                    have e_1 : mR ((stp + k) + 1) laws z cnt fogs arms kinds (goF laws fogs arms (stp + k) kinds ((stA laws fogs arms kinds cnt stp faiths places moved k).1) ((stA laws fogs arms kinds cnt stp faiths places moved k).2.1) cnt) (goP laws fogs arms (stp + k) kinds ((stA laws fogs arms kinds cnt stp faiths places moved k).1) ((stA laws fogs arms kinds cnt stp faiths places moved k).2.1) cnt) (goM laws fogs arms (stp + k) kinds ((stA laws fogs arms kinds cnt stp faiths places moved k).2.1) ((stA laws fogs arms kinds cnt stp faiths places moved k).2.2) cnt) = mR (stp + (k + 1)) laws z cnt fogs arms kinds ((stA laws fogs arms kinds cnt stp faiths places moved (k + 1)).1) ((stA laws fogs arms kinds cnt stp faiths places moved (k + 1)).2.1) ((stA laws fogs arms kinds cnt stp faiths places moved (k + 1)).2.2) := rfl
                    rw [e_1] at hw
                    exact ih_25 (k + 1) (nI (k + 1)) (goE laws fogs arms (stp + k) kinds ((stA laws fogs arms kinds cnt stp faiths places moved k).1) ((stA laws fogs arms kinds cnt stp faiths places moved k).2.1) de cnt) (by omega) (by omega) (eM) _ _ hw _ (lv_sub hl [0, 1, 4, 5] rfl)
                  · have eM : ((0 : Int32) = 0 ∧ jdR rws (rowRV laws fogs arms kinds cnt stp faiths places moved (ix goer)) (3 * rmn) 0 = jdR rws (rowRV laws fogs arms kinds cnt stp faiths places moved (ix goer)) (3 * rmn - 3 * (k + 1)) (3 * (k + 1))) ∨ (¬ (0 : Int32) = 0 ∧ jdR rws (rowRV laws fogs arms kinds cnt stp faiths places moved (ix goer)) (3 * rmn) 0 = 0) := Or.inl ⟨rfl, by rcases eP with h | h; (rw [h.2, hpE, show 3 * (k + 1) = 3 * k + 3 by omega]); exact absurd h.1 c_7⟩
                    refine lv_iconst (v := 0) hx hb dX11_judge_97 (by decide) ?_
                    refine lv_goto (tgt := 104) hx hb dX11_judge_98 (by decide) ?_
                    refine lv_istore_n (lv' := [(2, .int 0), (5, .int (nI pp)), (4, .int is_), (3, .int (nI k)), (0, .ref oh), (1, .int goer)]) hx hb dX11_judge_104 rfl hl (by decide) rfl (fun ls hl => ?_)
                    refine lv_iinc (v := nI (k + 1)) (lv' := [(3, .int (nI (k + 1))), (2, .int 0), (5, .int (nI pp)), (4, .int is_), (0, .ref oh), (1, .int goer)]) hx hb dX11_judge_105 hl (k := 3) rfl (nI_1 _) (by decide) rfl (fun ls hl => ?_)
                    refine lv_goto (tgt := 25) hx hb dX11_judge_108 (by decide) ?_
                    have e_1 : mR ((stp + k) + 1) laws z cnt fogs arms kinds (goF laws fogs arms (stp + k) kinds ((stA laws fogs arms kinds cnt stp faiths places moved k).1) ((stA laws fogs arms kinds cnt stp faiths places moved k).2.1) cnt) (goP laws fogs arms (stp + k) kinds ((stA laws fogs arms kinds cnt stp faiths places moved k).1) ((stA laws fogs arms kinds cnt stp faiths places moved k).2.1) cnt) (goM laws fogs arms (stp + k) kinds ((stA laws fogs arms kinds cnt stp faiths places moved k).2.1) ((stA laws fogs arms kinds cnt stp faiths places moved k).2.2) cnt) = mR (stp + (k + 1)) laws z cnt fogs arms kinds ((stA laws fogs arms kinds cnt stp faiths places moved (k + 1)).1) ((stA laws fogs arms kinds cnt stp faiths places moved (k + 1)).2.1) ((stA laws fogs arms kinds cnt stp faiths places moved (k + 1)).2.2) := rfl
                    rw [e_1] at hw
                    exact ih_25 (k + 1) 0 (goE laws fogs arms (stp + k) kinds ((stA laws fogs arms kinds cnt stp faiths places moved k).1) ((stA laws fogs arms kinds cnt stp faiths places moved k).2.1) de cnt) (by omega) (by omega) (eM) _ _ hw _ (lv_sub hl [0, 1, 4, 5] rfl)
                · have hpE : pp < 3 := Nat.not_le.mp (fun h => c_6 ((nI_leI (a := 3) (by omega) (by omega)).mpr h))
                  have hm : 3 * rmn - (3 * k + pp) = 3 * rmn - (3 * k + pp + 1) + 1 := by omega
                  refine lv_iload hx hb dX11_judge_53 (lv_at hl 1 rfl) ?_
                  refine lv_if_eq (tgt := 83) hx hb dX11_judge_55 (by decide) (fun c_8 => ?_) (fun c_8 => ?_)
                  · have hi0 : is_ = 0 := c_8
                    have eN : ((0 : Int32) = 1 ∧ jdR rws (rowRV laws fogs arms kinds cnt stp faiths places moved (ix goer)) (3 * rmn) 0 = jdR rws (rowRV laws fogs arms kinds cnt stp faiths places moved (ix goer)) (3 * rmn - (3 * k + (pp + 1))) (3 * k + (pp + 1))) ∨ ((0 : Int32) = 0 ∧ jdR rws (rowRV laws fogs arms kinds cnt stp faiths places moved (ix goer)) (3 * rmn) 0 = nI (k + 1)) := Or.inr ⟨rfl, by rcases eP with h | h; exact absurd (h.1.symm.trans hi0) (by decide); exact h.2⟩
                    refine lv_iconst (v := 0) hx hb dX11_judge_83 (by decide) ?_
                    refine lv_istore (lv' := [(4, .int 0), (5, .int (nI pp)), (3, .int (nI k)), (2, .int wr_), (0, .ref oh), (1, .int goer)]) hx hb dX11_judge_84 hl (by decide) rfl (fun ls hl => ?_)
                    refine lv_iinc (v := nI (pp + 1)) (lv' := [(5, .int (nI (pp + 1))), (4, .int 0), (3, .int (nI k)), (2, .int wr_), (0, .ref oh), (1, .int goer)]) hx hb dX11_judge_86 hl (k := 1) rfl (nI_1 _) (by decide) rfl (fun ls hl => ?_)
                    refine lv_goto (tgt := 47) hx hb dX11_judge_89 (by decide) ?_
                    exact ih_47 (pp + 1) 0 (by omega) (by omega) (eN) _ _ hw _ (lv_sub hl [0, 1, 2, 3, 4, 5] rfl)
                  · have eP2 : jdR rws (rowRV laws fogs arms kinds cnt stp faiths places moved (ix goer)) (3 * rmn) 0 = jdR rws (rowRV laws fogs arms kinds cnt stp faiths places moved (ix goer)) (3 * rmn - (3 * k + pp)) (3 * k + pp) := by rcases eP with h | h; exact h.2; exact absurd h.1 c_8
                    refine lv_aload_n hx hb dX11_judge_58 rfl (lv_at hl 4 rfl) ?_
                    refine rg hf hk hw hinX11 0 rfl rfl 13 (by decide) w_3 rfl dX11_judge_59 ?_
                    refine lv_iconst (v := 3) hx hb dX11_judge_62 (by decide) ?_
                    refine lv_iload_n hx hb dX11_judge_63 rfl (lv_at hl 2 rfl) ?_
                    refine lv_imul hx hb dX11_judge_64 ?_
                    refine lv_tope (y := nI (3 * k)) (pk_mul 3 _) ?_
                    refine lv_iload hx hb dX11_judge_65 (lv_at hl 0 rfl) ?_
                    refine lv_iadd hx hb dX11_judge_67 ?_
                    refine lv_tope (y := nI (3 * k + pp)) (nI_add _ _) ?_
                    refine rij hf hk hw 4 rfl (j := 3 * k + pp) (vp_in_nI (by omega) (by omega)) (nI_clamp (by omega)) dX11_judge_68 ?_
                    refine lv_aload_n hx hb dX11_judge_69 rfl (lv_at hl 4 rfl) ?_
                    refine lv_iload_n hx hb dX11_judge_70 rfl (lv_at hl 5 rfl) ?_
                    refine lv_tope (y := nI (ix goer)) hg.1 ?_
                    refine lv_iload hx hb dX11_judge_71 (lv_at hl 0 rfl) ?_
                    refine mcV hf hk hst hw (c_X11_rowNow l g oh os ok ol ord odd otp olt orw oso osz oit oho ohe otr ((stp + k) + 1) laws z cnt fogs arms kinds (goF laws fogs arms (stp + k) kinds ((stA laws fogs arms kinds cnt stp faiths places moved k).1) ((stA laws fogs arms kinds cnt stp faiths places moved k).2.1) cnt) (goP laws fogs arms (stp + k) kinds ((stA laws fogs arms kinds cnt stp faiths places moved k).1) ((stA laws fogs arms kinds cnt stp faiths places moved k).2.1) cnt) (goM laws fogs arms (stp + k) kinds ((stA laws fogs arms kinds cnt stp faiths places moved k).2.1) ((stA laws fogs arms kinds cnt stp faiths places moved k).2.2) cnt) isk tpd oat obg otk ovl rmn tcd own_ opt (ix goer) (nI pp) (by omega) (hg2) ((stA_ok hpl hmo_ (k + 1)).1)) (cwV 2 hts gX11_judge_X11_rowNow rfl rfl rfl hdV_X11_rowNow ⟨Nat.le_of_ble_eq_true rfl, Nat.le_of_ble_eq_true rfl⟩) [0, 1] rfl rfl 0 rfl rfl rfl hl.1 rfl (Nat.le_of_ble_eq_true rfl) dX11_judge_73 ⟨Nat.zero_le _, Nat.zero_le _⟩ (W' := [cob oh 11 [.ref os, .ref ok, .ref ol, .ref ord, .int isk, .ref odd, .ref otp, .int (nI tpd), .ref olt, .int oat, .int obg, .int otk, .int ovl, .ref orw, .int (nI rmn), .ref oso, .ref osz, .ref oit, .ref oho, .ref ohe, .ref otr, .int (nI tcd), .int own_, .int opt], cin g os 51 (mR ((stp + k) + 1) laws z cnt fogs arms kinds (goF laws fogs arms (stp + k) kinds ((stA laws fogs arms kinds cnt stp faiths places moved k).1) ((stA laws fogs arms kinds cnt stp faiths places moved k).2.1) cnt) (goP laws fogs arms (stp + k) kinds ((stA laws fogs arms kinds cnt stp faiths places moved k).1) ((stA laws fogs arms kinds cnt stp faiths places moved k).2.1) cnt) (goM laws fogs arms (stp + k) kinds ((stA laws fogs arms kinds cnt stp faiths places moved k).2.1) ((stA laws fogs arms kinds cnt stp faiths places moved k).2.2) cnt)), cin g ol 51 (mR stp laws z cnt fogs arms kinds faiths places moved), cin g odd 8 (goE laws fogs arms (stp + k) kinds ((stA laws fogs arms kinds cnt stp faiths places moved k).1) ((stA laws fogs arms kinds cnt stp faiths places moved k).2.1) de cnt), cin g orw 30 rws]) rfl (fun H locs hw => ?_)
                    refine lv_tope (y := (rowRV laws fogs arms kinds cnt stp faiths places moved (ix goer)) (3 * k + pp)) (rowRV_c (fun _ _ => rfl) (fun _ _ => rfl) (fun _ _ => rfl) (fun _ _ => rfl) hg2 k pp hpE) ?_
                    refine lv_icmp_ne (tgt := 83) hx hb dX11_judge_76 (by decide) (fun c_9 => ?_) (fun c_9 => ?_)
                    · have eN : ((0 : Int32) = 1 ∧ jdR rws (rowRV laws fogs arms kinds cnt stp faiths places moved (ix goer)) (3 * rmn) 0 = jdR rws (rowRV laws fogs arms kinds cnt stp faiths places moved (ix goer)) (3 * rmn - (3 * k + (pp + 1))) (3 * k + (pp + 1))) ∨ ((0 : Int32) = 0 ∧ jdR rws (rowRV laws fogs arms kinds cnt stp faiths places moved (ix goer)) (3 * rmn) 0 = nI (k + 1)) := Or.inr ⟨rfl, by rw [eP2, hm]; exact (if_neg c_9).trans (by rw [show (3 * k + pp) / 3 = k by omega]; exact nI_1 k)⟩
                      refine lv_iconst (v := 0) hx hb dX11_judge_83 (by decide) ?_
                      refine lv_istore (lv' := [(4, .int 0), (5, .int (nI pp)), (3, .int (nI k)), (2, .int wr_), (0, .ref oh), (1, .int goer)]) hx hb dX11_judge_84 hl (by decide) rfl (fun ls hl => ?_)
                      refine lv_iinc (v := nI (pp + 1)) (lv' := [(5, .int (nI (pp + 1))), (4, .int 0), (3, .int (nI k)), (2, .int wr_), (0, .ref oh), (1, .int goer)]) hx hb dX11_judge_86 hl (k := 1) rfl (nI_1 _) (by decide) rfl (fun ls hl => ?_)
                      refine lv_goto (tgt := 47) hx hb dX11_judge_89 (by decide) ?_
                      exact ih_47 (pp + 1) 0 (by omega) (by omega) (eN) _ _ hw _ (lv_sub hl [0, 1, 2, 3, 4, 5] rfl)
                    · have eN : ((1 : Int32) = 1 ∧ jdR rws (rowRV laws fogs arms kinds cnt stp faiths places moved (ix goer)) (3 * rmn) 0 = jdR rws (rowRV laws fogs arms kinds cnt stp faiths places moved (ix goer)) (3 * rmn - (3 * k + (pp + 1))) (3 * k + (pp + 1))) ∨ ((1 : Int32) = 0 ∧ jdR rws (rowRV laws fogs arms kinds cnt stp faiths places moved (ix goer)) (3 * rmn) 0 = nI (k + 1)) := Or.inl ⟨rfl, by rw [eP2, hm]; exact if_pos c_9⟩
                      refine lv_iconst (v := 1) hx hb dX11_judge_79 (by decide) ?_
                      refine lv_goto (tgt := 84) hx hb dX11_judge_80 (by decide) ?_
                      refine lv_istore (lv' := [(4, .int 1), (5, .int (nI pp)), (3, .int (nI k)), (2, .int wr_), (0, .ref oh), (1, .int goer)]) hx hb dX11_judge_84 hl (by decide) rfl (fun ls hl => ?_)
                      refine lv_iinc (v := nI (pp + 1)) (lv' := [(5, .int (nI (pp + 1))), (4, .int 1), (3, .int (nI k)), (2, .int wr_), (0, .ref oh), (1, .int goer)]) hx hb dX11_judge_86 hl (k := 1) rfl (nI_1 _) (by decide) rfl (fun ls hl => ?_)
                      refine lv_goto (tgt := 47) hx hb dX11_judge_89 (by decide) ?_
                      exact ih_47 (pp + 1) 1 (by omega) (by omega) (eN) _ _ hw _ (lv_sub hl [0, 1, 2, 3, 4, 5] rfl)
            exact lp_47_4 (3 + 1) 0 1 (by omega) (by omega) (Or.inl ⟨rfl, eR⟩) _ _ hw _ (lv_sub hl [0, 1, 2, 3, 4, 5] rfl)
    exact lp_25_1 (rmn + 1) 0 0 dd (by omega) (by omega) (Or.inl ⟨rfl, rfl⟩) _ _ hw _ (lv_sub hl [0, 1, 2, 3] rfl)
  · refine lv_iconst (v := (-1)) hx hb dX11_judge_8 (by decide) ?_
    exact rE_i hf hr hlk hw ⟨congrArg some (by simp only [if_pos c_1]), _, _, rfl⟩ (show ([oh, os, ol, odd, orw] : List Nat) = [oh, os, ol, odd, orw] from rfl) dX11_judge_9
