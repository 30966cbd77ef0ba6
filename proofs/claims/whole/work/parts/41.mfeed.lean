theorem b255_64 : ∀ i, i < 32 → (255#64).getLsbD i = decide (i < 8) := by decide +kernel
theorem b255_32 : ∀ i, i < 32 → (255#32).getLsbD i = decide (i < 8) := by decide +kernel
theorem fe_v (e8 : Int64) {k : Nat} (hk : k < 8) : ((e8 >>> ((8 * nI k).toInt64 &&& 63)) &&& 255).toInt32 = tkB e8 k &&& 255 := by
  have h1 : ((8 * nI k).toInt64 &&& 63).toBitVec.smod 64 = BitVec.ofNat 64 (8 * k) := (show ∀ k, k < 8 → ((8 * nI k).toInt64 &&& 63).toBitVec.smod 64 = BitVec.ofNat 64 (8 * k) by decide +kernel) k hk
  have h2 : ((8 * nI k).toInt64.toUInt64 &&& Int64.toUInt64 63).toBitVec % 64 = BitVec.ofNat 64 (8 * k) := (show ∀ k, k < 8 → ((8 * nI k).toInt64.toUInt64 &&& Int64.toUInt64 63).toBitVec % 64 = BitVec.ofNat 64 (8 * k) by decide +kernel) k hk
  unfold tkB
  rw [vp_nar_byte]
  apply Int32.toBitVec_inj.1
  have a1 : (((e8 >>> ((8 * nI k).toInt64 &&& 63)) &&& 255).toInt32).toBitVec = BitVec.signExtend 32 (e8.toBitVec.sshiftRight (8 * k) &&& 255#64) := by
    show BitVec.signExtend 32 (e8.toBitVec.sshiftRight' (((8 * nI k).toInt64 &&& 63).toBitVec.smod 64) &&& 255#64) = _
    rw [h1, BitVec.sshiftRight'_ofNat_eq_sshiftRight, Nat.mod_eq_of_lt (by omega)]
  have a2 : ((e8.toUInt64 >>> ((8 * nI k).toInt64.toUInt64 &&& Int64.toUInt64 63)).toInt64).toBitVec = e8.toBitVec >>> (8 * k) := by
    show e8.toBitVec >>> (((8 * nI k).toInt64.toUInt64 &&& Int64.toUInt64 63).toBitVec % 64) = _
    rw [h2]
    show e8.toBitVec.ushiftRight (BitVec.ofNat 64 (8 * k)).toNat = _
    rw [BitVec.toNat_ofNat, Nat.mod_eq_of_lt (by omega)]
    rfl
  rw [a1]
  generalize (e8.toUInt64 >>> ((8 * nI k).toInt64.toUInt64 &&& Int64.toUInt64 63)).toInt64 = y at a2 ⊢
  show _ = BitVec.signExtend 32 (BitVec.signExtend 8 (BitVec.signExtend 32 (BitVec.signExtend 8 (BitVec.signExtend 32 y.toBitVec)))) &&& 255#32
  rw [a2]
  apply BitVec.eq_of_getLsbD_eq
  intro i hi
  rw [BitVec.getLsbD_and, b255_32 i hi, BitVec.getLsbD_signExtend, BitVec.getLsbD_and, b255_64 i hi, BitVec.getLsbD_sshiftRight]
  by_cases h8 : i < 8
  · rw [BitVec.getLsbD_signExtend, BitVec.getLsbD_signExtend, BitVec.getLsbD_signExtend, BitVec.getLsbD_signExtend, BitVec.getLsbD_signExtend, BitVec.getLsbD_ushiftRight]
    have c1 : i < 64 := by omega
    have c2 : 8 * k + i < 64 := by omega
    simp [h8, hi, c1, c2]
  · simp [h8]; intros; omega
theorem fe_s {byt : Nat → Int32} {tsz : Nat} {e8 : Int64} {k : Nat} (hk : k < 8) : upd (ubT (tkT byt tsz e8 k)) (tsz + k) (((e8 >>> ((8 * nI k).toInt64 &&& 63)) &&& 255).toInt32) = ubT (tkT byt tsz e8 (k + 1)) := by
  rw [← tkT_s (byt := byt) rfl, fe_v e8 hk]
  funext j
  unfold ubT
  by_cases h : j = tsz + k
  · rw [h, pk_us, pk_us]
  · rw [pk_un h, pk_un h]
abbrev rmX11_feed : Room := { frames := 1, cells := 0, slots := 0, locals := 22 }
set_option maxHeartbeats 4000000 in
set_option maxRecDepth 100000 in
theorem c_X11_feed (l : Launch) (g : GG) (oh : Nat) (os : Nat) (ok : Nat) (ol : Nat) (ord : Nat) (odd : Nat) (otp : Nat) (olt : Nat) (orw : Nat) (oso : Nat) (osz : Nat) (oit : Nat) (oho : Nat) (ohe : Nat) (otr : Nat) (isk : Int32) (tpd : Nat) (oat : Int32) (obg : Int32) (otk : Int32) (ovl : Int32) (rmn : Nat) (tcd : Nat) (own_ : Int32) (opt : Int32) (byt : Nat → Int32) (e8 : Int64) (n : Int32) (htz : tpd ≤ 200) : mtR l g yX11_feed wsX11_feed rmX11_feed [.ref oh, .long e8, .int n] [cob oh 11 [.ref os, .ref ok, .ref ol, .ref ord, .int isk, .ref odd, .ref otp, .int (nI tpd), .ref olt, .int oat, .int obg, .int otk, .int ovl, .ref orw, .int (nI rmn), .ref oso, .ref osz, .ref oit, .ref oho, .ref ohe, .ref otr, .int (nI tcd), .int own_, .int opt], cin g otp 200 (ubT byt)] (fun rv W => rv = (some (.int (f_X10_feed tpd n))) ∧ W = [cob oh 11 [.ref os, .ref ok, .ref ol, .ref ord, .int isk, .ref odd, .ref otp, .int (f_X10_feed_w1 tpd n), .ref olt, .int oat, .int obg, .int otk, .int ovl, .ref orw, .int (nI rmn), .ref oso, .ref osz, .ref oit, .ref oho, .ref ohe, .ref otr, .int (nI tcd), .int own_, .int opt], cin g otp 200 (ubT (f_X10_feed_w2 tpd byt e8 n))]) := by
  refine mtR.of (cc := cX11_feed) (nL := 5) (ret := (some .int)) (own := RX11) (by decide +kernel) rfl rfl (Nat.le_of_ble_eq_true rfl) (fun p e s m below meth c hf hr hlk _ hk hst hw ls hl => ?_)
  have hx := hf.1
  have hb := hf.2.1
  have hts := hf.2.2.2.2
  have hl : lv_has ls 5 [(0, .ref oh), (1, .long e8), (3, .int n)] := hl
  have hinX11 : ∀ w ∈ u_ws RX11 TX11 24, w ∈ wsX11_feed := fun w h => List.mem_cons_of_mem _ (List.mem_append_right _ h)
  have w_0 : Cond.fieldLink RX11 106 "LightManModel" "taped" "I" ∈ wsX11_feed := List.mem_of_getElem? (i := 1) rfl
  have w_1 : Cond.fieldLink RX11 25 "LightManModel" "tape" "[I" ∈ wsX11_feed := List.mem_of_getElem? (i := 2) rfl
  have w_2 : Cond.constantLong RX11 152 (255) ∈ wsX11_feed := List.mem_of_getElem? (i := 3) rfl
  refine lv_iload_n hx hb dX11_feed_0 rfl (lv_at hl 2 rfl) ?_
  refine lv_iconst (v := 1) hx hb dX11_feed_1 (by decide) ?_
  refine lv_bipush (v := 8) hx hb dX11_feed_2 (by decide) ?_
  refine mcS hf hk hst hw (c_X11_in1 l g n 1 8) (va_cwS 3 hts gX11_feed_X11_in1 rfl rfl rfl hdS_X11_in1 ⟨Nat.le_of_ble_eq_true rfl, Nat.le_of_ble_eq_true rfl⟩) [] rfl rfl rfl hl.1 rfl (Nat.le_of_ble_eq_true rfl) dX11_feed_4 ⟨Nat.zero_le _, Nat.zero_le _⟩ (W' := [cob oh 11 [.ref os, .ref ok, .ref ol, .ref ord, .int isk, .ref odd, .ref otp, .int (nI tpd), .ref olt, .int oat, .int obg, .int otk, .int ovl, .ref orw, .int (nI rmn), .ref oso, .ref osz, .ref oit, .ref oho, .ref ohe, .ref otr, .int (nI tcd), .int own_, .int opt], cin g otp 200 (ubT byt)]) rfl (fun H locs hw => ?_)
  refine lv_if_ne (tgt := 12) hx hb dX11_feed_7 (by decide) (fun c_1 => ?_) (fun c_1 => ?_)
  · have hn := out_n1 (M := 1) (N := 8) (by decide) (by decide) (nO_1 c_1)
    have hn2 := hn.2.1
    have hn3 := hn.2.2
    refine lv_aload_n hx hb dX11_feed_12 rfl (lv_at hl 0 rfl) ?_
    refine rg hf hk hw hinX11 0 rfl rfl 7 (by decide) w_0 rfl dX11_feed_13 ?_
    refine lv_iload_n hx hb dX11_feed_16 rfl (lv_at hl 2 rfl) ?_
    refine lv_tope (y := nI (ix n)) hn.1 ?_
    refine lv_iadd hx hb dX11_feed_17 ?_
    refine lv_tope (y := nI (tpd + ix n)) (nI_add _ _) ?_
    refine lv_sipush (v := 200) hx hb dX11_feed_18 (by decide) ?_
    refine lv_icmp_le (tgt := 27) hx hb dX11_feed_21 (by decide) (fun c_2 => ?_) (fun c_2 => ?_)
    · have h200 : tpd + ix n ≤ 200 := (nI_leI (b := 200) (by omega) (by omega)).mp c_2
      refine lv_iconst (v := 0) hx hb dX11_feed_27 (by decide) ?_
      refine lv_istore (lv' := [(4, .int 0), (0, .ref oh), (1, .long e8), (3, .int n)]) hx hb dX11_feed_28 hl (by decide) rfl (fun ls hl => ?_)
      have lp_30_2 : ∀ (fu k : Nat) (vb : Nat → Int32), k ≤ (ix n) → (ix n) + 1 ≤ k + fu → (vb = ubT (tkT byt tpd e8 k)) → ∀ (H : Heap) (locs : List Loc), hv g (va_I [cob oh 11 [.ref os, .ref ok, .ref ol, .ref ord, .int isk, .ref odd, .ref otp, .int (nI tpd), .ref olt, .int oat, .int obg, .int otk, .int ovl, .ref orw, .int (nI rmn), .ref oso, .ref osz, .ref oit, .ref oho, .ref ohe, .ref otr, .int (nI tcd), .int own_, .int opt], cin g otp 200 (ubT byt)]) s H locs [cob oh 11 [.ref os, .ref ok, .ref ol, .ref ord, .int isk, .ref odd, .ref otp, .int (nI (tpd + k)), .ref olt, .int oat, .int obg, .int otk, .int ovl, .ref orw, .int (nI rmn), .ref oso, .ref osz, .ref oit, .ref oho, .ref ohe, .ref otr, .int (nI tcd), .int own_, .int opt], cin g otp 200 vb] → ∀ ls : Array Slot, lv_has ls 5 [(4, .int (nI k)), (0, .ref oh), (1, .long e8), (3, .int n)] → W p l e rmX11_feed s m ([.ref oh, .long e8, .int n] : List Value).toArray below meth c H locs 0 0 (MQ below (mtS g [cob oh 11 [.ref os, .ref ok, .ref ol, .ref ord, .int isk, .ref odd, .ref otp, .int (nI tpd), .ref olt, .int oat, .int obg, .int otk, .int ovl, .ref orw, .int (nI rmn), .ref oso, .ref osz, .ref oit, .ref oho, .ref ohe, .ref otr, .int (nI tcd), .int own_, .int opt], cin g otp 200 (ubT byt)] (fun rv W => rv = (some (.int (f_X10_feed tpd n))) ∧ W = [cob oh 11 [.ref os, .ref ok, .ref ol, .ref ord, .int isk, .ref odd, .ref otp, .int (f_X10_feed_w1 tpd n), .ref olt, .int oat, .int obg, .int otk, .int ovl, .ref orw, .int (nI rmn), .ref oso, .ref osz, .ref oit, .ref oho, .ref ohe, .ref otr, .int (nI tcd), .int own_, .int opt], cin g otp 200 (ubT (f_X10_feed_w2 tpd byt e8 n))])) ([.ref oh, .long e8, .int n] : List Value).toArray s 0 0 (va_I [cob oh 11 [.ref os, .ref ok, .ref ol, .ref ord, .int isk, .ref odd, .ref otp, .int (nI tpd), .ref olt, .int oat, .int obg, .int otk, .int ovl, .ref orw, .int (nI rmn), .ref oso, .ref osz, .ref oit, .ref oho, .ref ohe, .ref otr, .int (nI tcd), .int own_, .int opt], cin g otp 200 (ubT byt)])) (F0 m 30 ls []) := by
        intro fu
        induction fu with
        | zero =>
          intro k vb h1 h2
          exact absurd h2 (by omega)
        | succ fu ih_30 =>
          intro k vb hk1_30 hk2_30 evb H locs hw ls hl
          refine lv_iload hx hb dX11_feed_30 (lv_at hl 0 rfl) ?_
          refine lv_iload_n hx hb dX11_feed_32 rfl (lv_at hl 3 rfl) ?_
          refine lv_tope (y := nI (ix n)) hn.1 ?_
          refine lv_icmp_ge (tgt := 73) hx hb dX11_feed_33 (by decide) (fun c_4 => ?_) (fun c_4 => ?_)
          · have hkE : k = ix n := Nat.le_antisymm hk1_30 ((nI_leI (by omega) (by omega)).mp c_4)
            rw [evb] at hw
            subst hkE
            refine lv_aload_n hx hb dX11_feed_73 rfl (lv_at hl 1 rfl) ?_
            refine rg hf hk hw hinX11 0 rfl rfl 7 (by decide) w_0 rfl dX11_feed_74 ?_
            exact rE_i hf hr hlk hw ⟨congrArg some (by simp only [f_X10_feed, if_pos (nO_1 c_1), if_pos c_2, tkR, tkN, if_neg (show ¬ (1 : Int32) = 0 by decide)]), by simp only [f_X10_feed_w1, f_X10_feed_w2, tkN, if_pos (nO_1 c_1), if_pos c_2]⟩ (show ([oh, otp] : List Nat) = [oh, otp] from rfl) dX11_feed_77
          · have hkE : k < ix n := Nat.not_le.mp (fun h => c_4 ((nI_leI (by omega) (by omega)).mpr h))
            refine lv_aload_n hx hb dX11_feed_36 rfl (lv_at hl 1 rfl) ?_
            refine rg hf hk hw hinX11 0 rfl rfl 6 (by decide) w_1 rfl dX11_feed_37 ?_
            refine lv_aload_n hx hb dX11_feed_40 rfl (lv_at hl 1 rfl) ?_
            refine rg hf hk hw hinX11 0 rfl rfl 7 (by decide) w_0 rfl dX11_feed_41 ?_
            refine lv_lload_n hx hb dX11_feed_44 rfl (lv_at hl 2 rfl) ?_
            refine lv_bipush (v := 8) hx hb dX11_feed_45 (by decide) ?_
            refine lv_iload hx hb dX11_feed_47 (lv_at hl 0 rfl) ?_
            refine lv_imul hx hb dX11_feed_49 ?_
            refine lv_lshr hx hb dX11_feed_50 rfl ?_
            refine lv_ldc2 hx hb hf.2.2.2.1 (hts _ w_2) dX11_feed_51 ?_
            refine lv_land hx hb dX11_feed_54 ?_
            refine lv_l2i hx hb dX11_feed_55 rfl ?_
            refine rsj hf hk hw 1 rfl (j := tpd + k) (vp_in_nI (by omega) (by omega)) (nI_clamp (by omega)) dX11_feed_56 (W' := [cob oh 11 [.ref os, .ref ok, .ref ol, .ref ord, .int isk, .ref odd, .ref otp, .int (nI (tpd + k)), .ref olt, .int oat, .int obg, .int otk, .int ovl, .ref orw, .int (nI rmn), .ref oso, .ref osz, .ref oit, .ref oho, .ref ohe, .ref otr, .int (nI tcd), .int own_, .int opt], cin g otp 200 (upd vb (tpd + k) (((e8 >>> ((8 * (nI k)).toInt64 &&& 63)) &&& 255).toInt32))]) rfl (fun H locs hw => ?_)
            refine lv_aload_n hx hb dX11_feed_57 rfl (lv_at hl 1 rfl) ?_
            refine lv_dup hx hb dX11_feed_58 rfl ?_
            refine rg hf hk hw hinX11 0 rfl rfl 7 (by decide) w_0 rfl dX11_feed_59 ?_
            refine lv_iconst (v := 1) hx hb dX11_feed_62 (by decide) ?_
            refine lv_iadd hx hb dX11_feed_63 ?_
            refine lv_tope (y := nI (tpd + (k + 1))) (nI_1 _) ?_
            refine rp hf hk hw hinX11 tyX11 tyX11_ok nmX11 0 rfl rfl 7 (by decide) w_0 rfl (rfl) rfl (Nat.le_of_ble_eq_true rfl) dX11_feed_64 (W' := [cob oh 11 [.ref os, .ref ok, .ref ol, .ref ord, .int isk, .ref odd, .ref otp, .int (nI (tpd + (k + 1))), .ref olt, .int oat, .int obg, .int otk, .int ovl, .ref orw, .int (nI rmn), .ref oso, .ref osz, .ref oit, .ref oho, .ref ohe, .ref otr, .int (nI tcd), .int own_, .int opt], cin g otp 200 (upd vb (tpd + k) (((e8 >>> ((8 * (nI k)).toInt64 &&& 63)) &&& 255).toInt32))]) rfl (fun H locs hw => ?_)
            refine lv_iinc (v := nI (k + 1)) (lv' := [(4, .int (nI (k + 1))), (0, .ref oh), (1, .long e8), (3, .int n)]) hx hb dX11_feed_67 hl (k := 0) rfl (nI_1 _) (by decide) rfl (fun ls hl => ?_)
            refine lv_goto (tgt := 30) hx hb dX11_feed_70 (by decide) ?_
            exact ih_30 (k + 1) (upd vb (tpd + k) (((e8 >>> ((8 * (nI k)).toInt64 &&& 63)) &&& 255).toInt32)) (by omega) (by omega) (by rw [evb]; exact fe_s (by omega)) _ _ hw _ (lv_sub hl [0, 1, 2, 3] rfl)
      exact lp_30_2 ((ix n) + 1) 0 (ubT byt) (by omega) (by omega) (congrArg ubT (tkT_0 byt tpd e8)) _ _ hw _ (lv_sub hl [0, 1, 2, 3] rfl)
    · refine lv_bipush (v := (-2)) hx hb dX11_feed_24 (by decide) ?_
      exact rE_i hf hr hlk hw ⟨congrArg some (by simp only [f_X10_feed, if_pos (nO_1 c_1), if_neg c_2, tkR, tkN, if_pos True.intro]), by simp only [f_X10_feed_w1, f_X10_feed_w2, tkN, if_pos (nO_1 c_1), if_neg c_2]⟩ (show ([oh, otp] : List Nat) = [oh, otp] from rfl) dX11_feed_26
  · refine lv_iconst (v := (-1)) hx hb dX11_feed_10 (by decide) ?_
    exact rE_i hf hr hlk hw ⟨congrArg some (by simp only [f_X10_feed, if_neg (nO_0 c_1)]), by simp only [f_X10_feed_w1, f_X10_feed_w2, if_neg (nO_0 c_1)]⟩ (show ([oh, otp] : List Nat) = [oh, otp] from rfl) dX11_feed_11
