/-- Euclid's steps end -/
def cdE : Nat → Int64 → Int64 → Prop
  | 0, _, b => b = 0
  | m + 1, a, b => b = 0 ∨ cdE m b (a - a / b * b)
def eN : Nat → Nat → Nat → Prop
  | 0, _, b => b = 0
  | m + 1, a, b => b = 0 ∨ eN m b (a % b)
def fbN : Nat → Nat
  | 0 => 1
  | 1 => 1
  | n + 2 => fbN (n + 1) + fbN n
theorem eN_fb : ∀ (n a b : Nat), ¬ eN n a b → fbN n ≤ b
  | 0, _, b, h => Nat.pos_of_ne_zero h
  | 1, a, b, h => Nat.pos_of_ne_zero (fun q => h (Or.inl q))
  | n + 2, a, b, h => by
    have hb : b ≠ 0 := fun q => h (Or.inl q)
    have h1 : ¬ eN (n + 1) b (a % b) := fun q => h (Or.inr q)
    have hr : a % b ≠ 0 := fun q => h1 (Or.inl q)
    have h2 : ¬ eN n (a % b) (b % (a % b)) := fun q => h1 (Or.inr q)
    have f1 := eN_fb (n + 1) _ _ h1
    have f2 := eN_fb n _ _ h2
    have hlt : a % b < b := Nat.mod_lt _ (Nat.pos_of_ne_zero hb)
    have hd := Nat.div_add_mod b (a % b)
    have hq : 1 ≤ b / (a % b) := Nat.div_pos (Nat.le_of_lt hlt) (Nat.pos_of_ne_zero hr)
    have hm : a % b ≤ (a % b) * (b / (a % b)) := Nat.le_mul_of_pos_right _ hq
    show fbN (n + 1) + fbN n ≤ b
    omega
def fbP : Nat → Nat × Nat
  | 0 => (1, 1)
  | n + 1 => ((fbP n).2, (fbP n).2 + (fbP n).1)
theorem fbP_ok : ∀ n, fbP n = (fbN n, fbN (n + 1))
  | 0 => rfl
  | n + 1 => by unfold fbP; rw [fbP_ok n]; rfl
theorem fb100 : 2 ^ 63 < fbN 100 := by
  have h : fbN 100 = (fbP 100).1 := by rw [fbP_ok]
  rw [h]; decide +kernel
theorem L_eq {a b : Int64} (h : a.toInt = b.toInt) : a = b := Int64.toInt_inj.mp h
theorem L_rem (a b : Int64) : (a - a / b * b).toInt = a.toInt.tmod b.toInt := by
  have h : (a - a / b * b).toInt = (a % b).toInt := by
    rw [Int64.toInt_sub, Int64.toInt_mul, Int64.toInt_div, Int.bmod_mul_bmod, Int.sub_bmod_bmod, Int64.toInt_mod]
    have e : a.toInt - a.toInt.tdiv b.toInt * b.toInt = a.toInt.tmod b.toInt := by
      have := Int.tmod_add_tdiv_mul a.toInt b.toInt
      omega
    rw [e, ← Int64.toInt_mod, ← Int64.toInt_ofInt, Int64.ofInt_toInt]
  rw [h, Int64.toInt_mod]
theorem cdE_of : ∀ (m : Nat) (a b : Int64), eN m a.toInt.natAbs b.toInt.natAbs → cdE m a b
  | 0, a, b, h => L_eq (Int.natAbs_eq_zero.mp h)
  | m + 1, a, b, h => by
    rcases h with h | h
    · exact Or.inl (L_eq (Int.natAbs_eq_zero.mp h))
    · refine Or.inr (cdE_of m b _ ?_)
      rw [L_rem, Int.natAbs_tmod]
      exact h
theorem cdE_100 (a b : Int64) : cdE 100 a b := by
  refine cdE_of 100 a b ?_
  by_cases h : eN 100 a.toInt.natAbs b.toInt.natAbs
  · exact h
  · have h1 := eN_fb 100 _ _ h
    have h2 := fb100
    have h3 := Int64.toInt_lt b
    have h4 := Int64.le_toInt b
    have h5 : b.toInt.natAbs ≤ 2 ^ 63 := by omega
    omega
theorem cd_nz : ∀ (m : Nat) (a b : Int64), (a ≠ 0 ∨ b ≠ 0) → cdE m a b → cdR m a b ≠ 0
  | 0, a, b, h, he => by
    rcases h with h | h
    · exact h
    · exact absurd he h
  | m + 1, a, b, h, he => by
    show (if lg_cmp b 0 = 0 then a else cdR m b (a - a / b * b)) ≠ 0
    by_cases hb : b = 0
    · rw [if_pos ((lg_cmp_eq b 0).mpr hb)]
      rcases h with h | h
      · exact h
      · exact absurd hb h
    · rw [if_neg (fun q => hb ((lg_cmp_eq b 0).mp q))]
      rcases he with he | he
      · exact absurd he hb
      · exact cd_nz m b _ (Or.inl hb) he
theorem odB_nz : ∀ n, n ≤ 8 → odB n ≠ 0 := by
  intro n hn
  rcases (show n = 0 ∨ n = 1 ∨ n = 2 ∨ n = 3 ∨ n = 4 ∨ n = 5 ∨ n = 6 ∨ n = 7 ∨ n = 8 by omega) with rfl | rfl | rfl | rfl | rfl | rfl | rfl | rfl | rfl <;> decide +kernel
/-- the model's product -/
def odM (lamp : Int32) (k : Nat) (w : Int64) : Nat → Int64
  | 0 => w
  | i + 1 => odM lamp k w i * (if nI k ≤ nI i then 100 - lamp else lamp).toInt64
theorem odM_A (lamp : Int32) (k : Nat) (w : Int64) : ∀ i, odM lamp k w i = odA lamp k i * w
  | 0 => by show w = 1 * w; rw [Int64.one_mul]
  | i + 1 => by
    show odM lamp k w i * _ = odA lamp k i * _ * w
    rw [odM_A lamp k w i, Int64.mul_assoc, Int64.mul_assoc, Int64.mul_comm w]
/-- k items of a row made 0 -/
def itZ (its : Nat → Int32) (b k : Nat) : Nat → Int32 := fun j => if b ≤ j ∧ j < b + k then 0 else its j
theorem itZ_0 (its : Nat → Int32) (b : Nat) : its = itZ its b 0 := by
  funext j
  unfold itZ
  rw [if_neg (by omega)]
theorem itZ_s {its f : Nat → Int32} {b k : Nat} (h : f = itZ its b k) : upd f (b + k) 0 = itZ its b (k + 1) := by
  subst h
  funext j
  by_cases hj : j = b + k
  · subst hj; rw [pk_us]; unfold itZ; rw [if_pos (by omega)]
  · rw [pk_un hj]
    unfold itZ
    by_cases h1 : b ≤ j ∧ j < b + k
    · rw [if_pos h1, if_pos (by omega)]
    · rw [if_neg h1, if_neg (by omega)]
abbrev rmX11_partOf : Room := { frames := 0, cells := 0, slots := 0, locals := 0 }
set_option maxHeartbeats 4000000 in
set_option maxRecDepth 100000 in
theorem c_X11_partOf (l : Launch) (g : GG) (xa : Int64) (xb : Int64) (part : Int32) (hxb : xb ≠ 0) : mt l g yX11_partOf wsX11_partOf rmX11_partOf [.long xa, .long xb, .int part] [] (some (.long (f_X10_partOf xa xb part))) [] := by
  refine mt.of (cc := cX11_partOf) (nL := 11) (ret := (some .long)) (own := RX11) (by decide +kernel) rfl rfl (show ([] : List Nat) = [] from rfl) (Nat.le_of_ble_eq_true rfl) (fun p e s m below meth c hf hr hlk _ hk hst hw ls hl => ?_)
  have hx := hf.1
  have hb := hf.2.1
  have hts := hf.2.2.2.2
  have hl : lv_has ls 11 [(0, .long xa), (2, .long xb), (4, .int part)] := hl
  have hnz := cd_nz 100 xa xb (Or.inr hxb) (cdE_100 xa xb)
  refine lv_lload_n hx hb dX11_partOf_0 rfl (lv_at hl 0 rfl) ?_
  refine lv_lstore (lv' := [(5, .long xa), (0, .long xa), (2, .long xb), (4, .int part)]) hx hb dX11_partOf_1 hl (by decide) rfl (fun ls hl => ?_)
  refine lv_lload_n hx hb dX11_partOf_3 rfl (lv_at hl 2 rfl) ?_
  refine lv_lstore (lv' := [(7, .long xb), (5, .long xa), (0, .long xa), (2, .long xb), (4, .int part)]) hx hb dX11_partOf_4 hl (by decide) rfl (fun ls hl => ?_)
  have lp_6_0 : ∀ (fu k : Nat) (ga : Int64) (gb : Int64), k ≤ 100 → 100 + 1 ≤ k + fu → (cdR 100 xa xb = cdR (100 - k) ga gb) → (cdE (100 - k) ga gb) → ∀ (H : Heap) (locs : List Loc), hv g (va_I []) s H locs [] → ∀ ls : Array Slot, lv_has ls 11 [(7, .long gb), (5, .long ga), (0, .long xa), (2, .long xb), (4, .int part)] → W p l e rmX11_partOf s m ([.long xa, .long xb, .int part] : List Value).toArray below meth c H locs 0 0 (MQ below (mtQ g [] (some (.long (f_X10_partOf xa xb part))) []) ([.long xa, .long xb, .int part] : List Value).toArray s 0 0 (va_I [])) (F0 m 6 ls []) := by
    intro fu
    induction fu with
    | zero =>
      intro k ga gb h1 h2
      exact absurd h2 (by omega)
    | succ fu ih_6 =>
      intro k ga gb hk1_6 hk2_6 eR eE H locs hw ls hl
      refine lv_lload hx hb dX11_partOf_6 (lv_at hl 0 rfl) ?_
      refine lv_lconst (v := 0) hx hb dX11_partOf_8 (by decide) ?_
      refine W.lcmp hx hb dX11_partOf_9 ?_
      refine lv_if_eq (tgt := 31) hx hb dX11_partOf_10 (by decide) (fun c_2 => ?_) (fun c_2 => ?_)
      · have hgE : ga = cdR 100 xa xb := by rw [eR]; have hc0 := c_2; cases hq : 100 - k with | zero => rfl | succ r => exact (if_pos hc0).symm
        rw [hgE] at hl
        refine lv_iload hx hb dX11_partOf_31 (lv_at hl 4 rfl) ?_
        refine lv_if_ne (tgt := 43) hx hb dX11_partOf_33 (by decide) (fun c_3 => ?_) (fun c_3 => ?_)
        · refine lv_lload_n hx hb dX11_partOf_43 rfl (lv_at hl 3 rfl) ?_
          refine lv_lload hx hb dX11_partOf_44 (lv_at hl 1 rfl) ?_
          refine lv_ldiv hx hb dX11_partOf_46 (hnz) ?_
          exact re_l hf hr hlk hw (by unfold f_X10_partOf; rw [if_neg (fun h => hnz ((lg_cmp_eq _ _).mp h)), if_neg c_3]) (rfl) dX11_partOf_47
        · refine lv_lload_n hx hb dX11_partOf_36 rfl (lv_at hl 2 rfl) ?_
          refine lv_lload hx hb dX11_partOf_37 (lv_at hl 1 rfl) ?_
          refine lv_ldiv hx hb dX11_partOf_39 (hnz) ?_
          refine lv_goto (tgt := 47) hx hb dX11_partOf_40 (by decide) ?_
          exact re_l hf hr hlk hw (by unfold f_X10_partOf; rw [if_neg (fun h => hnz ((lg_cmp_eq _ _).mp h)), if_pos c_3]) (rfl) dX11_partOf_47
      · have hb0 := c_2
        have hb1 : ¬ gb = 0 := fun h => hb0 ((lg_cmp_eq gb 0).mpr h)
        have hkE : k < 100 := by rcases Nat.lt_or_ge k 100 with q | q; exact q; exact absurd (by rw [show 100 - k = 0 by omega] at eE; exact eE) hb1
        have hm : 100 - k = (99 - k) + 1 := by omega
        refine lv_lload hx hb dX11_partOf_13 (lv_at hl 1 rfl) ?_
        refine lv_lload hx hb dX11_partOf_15 (lv_at hl 0 rfl) ?_
        refine lv_lrem hx hb dX11_partOf_17 (hb1) ?_
        refine lv_lstore (lv' := [(9, .long (ga - ga / gb * gb)), (7, .long gb), (5, .long ga), (0, .long xa), (2, .long xb), (4, .int part)]) hx hb dX11_partOf_18 hl (by decide) rfl (fun ls hl => ?_)
        refine lv_lload hx hb dX11_partOf_20 (lv_at hl 1 rfl) ?_
        refine lv_lstore (lv' := [(5, .long gb), (9, .long (ga - ga / gb * gb)), (7, .long gb), (0, .long xa), (2, .long xb), (4, .int part)]) hx hb dX11_partOf_22 hl (by decide) rfl (fun ls hl => ?_)
        refine lv_lload hx hb dX11_partOf_24 (lv_at hl 1 rfl) ?_
        refine lv_lstore (lv' := [(7, .long (ga - ga / gb * gb)), (5, .long gb), (9, .long (ga - ga / gb * gb)), (0, .long xa), (2, .long xb), (4, .int part)]) hx hb dX11_partOf_26 hl (by decide) rfl (fun ls hl => ?_)
        refine lv_goto (tgt := 6) hx hb dX11_partOf_28 (by decide) ?_
        exact ih_6 (k + 1) gb (ga - ga / gb * gb) (by omega) (by omega) (by rw [eR, hm, show 100 - (k + 1) = 99 - k by omega]; exact if_neg hb0) (by rw [hm] at eE; rw [show 100 - (k + 1) = 99 - k by omega]; exact eE.resolve_left hb1) _ _ hw _ (lv_sub hl [0, 1, 3, 4, 5] rfl)
  exact lp_6_0 (100 + 1) 0 xa xb (by omega) (by omega) (rfl) (cdE_100 xa xb) _ _ hw _ (lv_sub hl [0, 1, 2, 3, 4] rfl)
theorem hdS_X11_partOf : yX11_partOf.cls ≠ "java/lang/invoke/MethodHandle" ∧ yX11_partOf.cls ≠ "java/lang/invoke/VarHandle" ∧ (parseMethodDescriptor yX11_partOf.desc).map (fun d => d.parameters.length) = some 3 := by decide +kernel
abbrev rmX11_odds : Room := { frames := 1, cells := 0, slots := 0, locals := 30 }
set_option maxHeartbeats 4000000 in
set_option maxRecDepth 100000 in
theorem c_X11_odds (l : Launch) (g : GG) (oh : Nat) (os : Nat) (ok : Nat) (ol : Nat) (ord : Nat) (odd : Nat) (otp : Nat) (olt : Nat) (orw : Nat) (oso : Nat) (osz : Nat) (oit : Nat) (oho : Nat) (ohe : Nat) (otr : Nat) (stp : Nat) (laws : Nat → Int32) (z : Int32) (cnt : Nat) (fogs : Nat → Int32) (arms : Nat → Int32) (kinds : Nat → Int32) (faiths : Nat → Int32) (places : Nat → Int32) (moved : Nat → Int32) (isk : Int32) (tpd : Nat) (oat : Int32) (obg : Int32) (otk : Int32) (ovl : Int32) (rmn : Nat) (tcd : Nat) (own_ : Int32) (opt : Int32) (n : Int32) (k : Int32) (part : Int32) : mtR l g yX11_odds wsX11_odds rmX11_odds [.ref oh, .int n, .int k, .int part] [cob oh 11 [.ref os, .ref ok, .ref ol, .ref ord, .int isk, .ref odd, .ref otp, .int (nI tpd), .ref olt, .int oat, .int obg, .int otk, .int ovl, .ref orw, .int (nI rmn), .ref oso, .ref osz, .ref oit, .ref oho, .ref ohe, .ref otr, .int (nI tcd), .int own_, .int opt], cin g os 51 (mR stp laws z cnt fogs arms kinds faiths places moved)] (fun rv W => rv = (some (.long (if f_X10_isOutside n 0 8 = 0 then (if f_X10_isOutside k 0 (nI (ix n)) = 0 then (if f_X10_isOutside part 0 1 = 0 then f_X10_partOf (odM (laws 3) (ix k) (wyR (nI (ix n)) (ix k)) (ix n)) (odB (ix n)) part else -1) else -1) else -1))) ∧ W = [cob oh 11 [.ref os, .ref ok, .ref ol, .ref ord, .int isk, .ref odd, .ref otp, .int (nI tpd), .ref olt, .int oat, .int obg, .int otk, .int ovl, .ref orw, .int (nI rmn), .ref oso, .ref osz, .ref oit, .ref oho, .ref ohe, .ref otr, .int (nI tcd), .int own_, .int opt], cin g os 51 (mR stp laws z cnt fogs arms kinds faiths places moved)]) := by
  refine mtR.of (cc := cX11_odds) (nL := 9) (ret := (some .long)) (own := RX11) (by decide +kernel) rfl rfl (Nat.le_of_ble_eq_true rfl) (fun p e s m below meth c hf hr hlk _ hk hst hw ls hl => ?_)
  have hx := hf.1
  have hb := hf.2.1
  have hts := hf.2.2.2.2
  have hl : lv_has ls 9 [(0, .ref oh), (1, .int n), (2, .int k), (3, .int part)] := hl
  have w_0 : Cond.constantLong RX11 215 (-1) ∈ wsX11_odds := List.mem_of_getElem? (i := 1) rfl
  have hinX11 : ∀ w ∈ u_ws RX11 TX11 24, w ∈ wsX11_odds := fun w h => List.mem_cons_of_mem _ (List.mem_append_right _ h)
  have w_1 : Cond.fieldLink RX11 9 "LightManModel" "s" "[I" ∈ wsX11_odds := List.mem_of_getElem? (i := 2) rfl
  have w_2 : Cond.constantLong RX11 217 (100) ∈ wsX11_odds := List.mem_of_getElem? (i := 3) rfl
  refine lv_iload_n hx hb dX11_odds_0 rfl (lv_at hl 1 rfl) ?_
  refine lv_iconst (v := 0) hx hb dX11_odds_1 (by decide) ?_
  refine lv_bipush (v := 8) hx hb dX11_odds_2 (by decide) ?_
  refine mcS hf hk hst hw (c_X11_in1 l g n 0 8) (va_cwS 3 hts gX11_odds_X11_in1 rfl rfl rfl hdS_X11_in1 ⟨Nat.le_of_ble_eq_true rfl, Nat.le_of_ble_eq_true rfl⟩) [] rfl rfl rfl hl.1 rfl (Nat.le_of_ble_eq_true rfl) dX11_odds_4 ⟨Nat.zero_le _, Nat.zero_le _⟩ (W' := [cob oh 11 [.ref os, .ref ok, .ref ol, .ref ord, .int isk, .ref odd, .ref otp, .int (nI tpd), .ref olt, .int oat, .int obg, .int otk, .int ovl, .ref orw, .int (nI rmn), .ref oso, .ref osz, .ref oit, .ref oho, .ref ohe, .ref otr, .int (nI tcd), .int own_, .int opt], cin g os 51 (mR stp laws z cnt fogs arms kinds faiths places moved)]) rfl (fun H locs hw => ?_)
  refine lv_if_eq (tgt := 28) hx hb dX11_odds_7 (by decide) (fun c_1 => ?_) (fun c_1 => ?_)
  · refine lv_ldc2 hx hb hf.2.2.2.1 (hts _ w_0) dX11_odds_28 ?_
    exact rE_l hf hr hlk hw ⟨congrArg some (by simp only [if_neg (nO_0 c_1)]), rfl⟩ (show ([oh, os] : List Nat) = [oh, os] from rfl) dX11_odds_31
  · have hn := out_n (N := 8) (by decide) (nO_1 c_1)
    have hn2 := hn.2
    refine lv_iload_n hx hb dX11_odds_10 rfl (lv_at hl 2 rfl) ?_
    refine lv_iconst (v := 0) hx hb dX11_odds_11 (by decide) ?_
    refine lv_iload_n hx hb dX11_odds_12 rfl (lv_at hl 1 rfl) ?_
    refine lv_tope (y := nI (ix n)) hn.1 ?_
    refine mcS hf hk hst hw (c_X11_in1 l g k 0 (nI (ix n))) (va_cwS 3 hts gX11_odds_X11_in1 rfl rfl rfl hdS_X11_in1 ⟨Nat.le_of_ble_eq_true rfl, Nat.le_of_ble_eq_true rfl⟩) [] rfl rfl rfl hl.1 rfl (Nat.le_of_ble_eq_true rfl) dX11_odds_13 ⟨Nat.zero_le _, Nat.zero_le _⟩ (W' := [cob oh 11 [.ref os, .ref ok, .ref ol, .ref ord, .int isk, .ref odd, .ref otp, .int (nI tpd), .ref olt, .int oat, .int obg, .int otk, .int ovl, .ref orw, .int (nI rmn), .ref oso, .ref osz, .ref oit, .ref oho, .ref ohe, .ref otr, .int (nI tcd), .int own_, .int opt], cin g os 51 (mR stp laws z cnt fogs arms kinds faiths places moved)]) rfl (fun H locs hw => ?_)
    refine lv_if_eq (tgt := 28) hx hb dX11_odds_16 (by decide) (fun c_2 => ?_) (fun c_2 => ?_)
    · refine lv_ldc2 hx hb hf.2.2.2.1 (hts _ w_0) dX11_odds_28 ?_
      exact rE_l hf hr hlk hw ⟨congrArg some (by simp only [if_pos (nO_1 c_1), if_neg (nO_0 c_2)]), rfl⟩ (show ([oh, os] : List Nat) = [oh, os] from rfl) dX11_odds_31
    · have hk_ := out_n (N := ix n) (nI_toInt (by omega)) (nO_1 c_2)
      have hk_2 := hk_.2
      refine lv_iload_n hx hb dX11_odds_19 rfl (lv_at hl 3 rfl) ?_
      refine lv_iconst (v := 0) hx hb dX11_odds_20 (by decide) ?_
      refine lv_iconst (v := 1) hx hb dX11_odds_21 (by decide) ?_
      refine mcS hf hk hst hw (c_X11_in1 l g part 0 1) (va_cwS 3 hts gX11_odds_X11_in1 rfl rfl rfl hdS_X11_in1 ⟨Nat.le_of_ble_eq_true rfl, Nat.le_of_ble_eq_true rfl⟩) [] rfl rfl rfl hl.1 rfl (Nat.le_of_ble_eq_true rfl) dX11_odds_22 ⟨Nat.zero_le _, Nat.zero_le _⟩ (W' := [cob oh 11 [.ref os, .ref ok, .ref ol, .ref ord, .int isk, .ref odd, .ref otp, .int (nI tpd), .ref olt, .int oat, .int obg, .int otk, .int ovl, .ref orw, .int (nI rmn), .ref oso, .ref osz, .ref oit, .ref oho, .ref ohe, .ref otr, .int (nI tcd), .int own_, .int opt], cin g os 51 (mR stp laws z cnt fogs arms kinds faiths places moved)]) rfl (fun H locs hw => ?_)
      refine lv_if_ne (tgt := 32) hx hb dX11_odds_25 (by decide) (fun c_3 => ?_) (fun c_3 => ?_)
      · refine lv_lconst (v := 1) hx hb dX11_odds_32 (by decide) ?_
        refine lv_lstore (lv' := [(4, .long 1), (0, .ref oh), (1, .int n), (2, .int k), (3, .int part)]) hx hb dX11_odds_33 hl (by decide) rfl (fun ls hl => ?_)
        refine lv_lconst (v := 1) hx hb dX11_odds_35 (by decide) ?_
        refine lv_lstore (lv' := [(6, .long 1), (4, .long 1), (0, .ref oh), (1, .int n), (2, .int k), (3, .int part)]) hx hb dX11_odds_36 hl (by decide) rfl (fun ls hl => ?_)
        refine lv_iconst (v := 0) hx hb dX11_odds_38 (by decide) ?_
        refine lv_istore (lv' := [(8, .int 0), (6, .long 1), (4, .long 1), (0, .ref oh), (1, .int n), (2, .int k), (3, .int part)]) hx hb dX11_odds_39 hl (by decide) rfl (fun ls hl => ?_)
        have lp_41_3 : ∀ (fu j0 : Nat), j0 ≤ (ix k) → (ix k) + 1 ≤ j0 + fu → ∀ (H : Heap) (locs : List Loc), hv g (va_I [cob oh 11 [.ref os, .ref ok, .ref ol, .ref ord, .int isk, .ref odd, .ref otp, .int (nI tpd), .ref olt, .int oat, .int obg, .int otk, .int ovl, .ref orw, .int (nI rmn), .ref oso, .ref osz, .ref oit, .ref oho, .ref ohe, .ref otr, .int (nI tcd), .int own_, .int opt], cin g os 51 (mR stp laws z cnt fogs arms kinds faiths places moved)]) s H locs [cob oh 11 [.ref os, .ref ok, .ref ol, .ref ord, .int isk, .ref odd, .ref otp, .int (nI tpd), .ref olt, .int oat, .int obg, .int otk, .int ovl, .ref orw, .int (nI rmn), .ref oso, .ref osz, .ref oit, .ref oho, .ref ohe, .ref otr, .int (nI tcd), .int own_, .int opt], cin g os 51 (mR stp laws z cnt fogs arms kinds faiths places moved)] → ∀ ls : Array Slot, lv_has ls 9 [(8, .int (nI j0)), (6, .long 1), (4, .long (wyR (nI (ix n)) j0)), (0, .ref oh), (1, .int n), (2, .int k), (3, .int part)] → W p l e rmX11_odds s m ([.ref oh, .int n, .int k, .int part] : List Value).toArray below meth c H locs 0 0 (MQ below (mtS g [cob oh 11 [.ref os, .ref ok, .ref ol, .ref ord, .int isk, .ref odd, .ref otp, .int (nI tpd), .ref olt, .int oat, .int obg, .int otk, .int ovl, .ref orw, .int (nI rmn), .ref oso, .ref osz, .ref oit, .ref oho, .ref ohe, .ref otr, .int (nI tcd), .int own_, .int opt], cin g os 51 (mR stp laws z cnt fogs arms kinds faiths places moved)] (fun rv W => rv = (some (.long (if f_X10_isOutside n 0 8 = 0 then (if f_X10_isOutside k 0 (nI (ix n)) = 0 then (if f_X10_isOutside part 0 1 = 0 then f_X10_partOf (odM (laws 3) (ix k) (wyR (nI (ix n)) (ix k)) (ix n)) (odB (ix n)) part else -1) else -1) else -1))) ∧ W = [cob oh 11 [.ref os, .ref ok, .ref ol, .ref ord, .int isk, .ref odd, .ref otp, .int (nI tpd), .ref olt, .int oat, .int obg, .int otk, .int ovl, .ref orw, .int (nI rmn), .ref oso, .ref osz, .ref oit, .ref oho, .ref ohe, .ref otr, .int (nI tcd), .int own_, .int opt], cin g os 51 (mR stp laws z cnt fogs arms kinds faiths places moved)])) ([.ref oh, .int n, .int k, .int part] : List Value).toArray s 0 0 (va_I [cob oh 11 [.ref os, .ref ok, .ref ol, .ref ord, .int isk, .ref odd, .ref otp, .int (nI tpd), .ref olt, .int oat, .int obg, .int otk, .int ovl, .ref orw, .int (nI rmn), .ref oso, .ref osz, .ref oit, .ref oho, .ref ohe, .ref otr, .int (nI tcd), .int own_, .int opt], cin g os 51 (mR stp laws z cnt fogs arms kinds faiths places moved)])) (F0 m 41 ls []) := by
          intro fu
          induction fu with
          | zero =>
            intro j0 h1 h2
            exact absurd h2 (by omega)
          | succ fu ih_41 =>
            intro j0 hk1_41 hk2_41 H locs hw ls hl
            refine lv_iload hx hb dX11_odds_41 (lv_at hl 0 rfl) ?_
            refine lv_iload_n hx hb dX11_odds_43 rfl (lv_at hl 5 rfl) ?_
            refine lv_tope (y := nI (ix k)) hk_.1 ?_
            refine lv_icmp_ge (tgt := 69) hx hb dX11_odds_44 (by decide) (fun c_5 => ?_) (fun c_5 => ?_)
            · have hiE : j0 = ix k := Nat.le_antisymm hk1_41 ((nI_leI (by omega) (by omega)).mp c_5)
              subst hiE
              refine lv_iconst (v := 0) hx hb dX11_odds_69 (by decide) ?_
              refine lv_istore (lv' := [(8, .int 0), (6, .long 1), (4, .long (wyR (nI (ix n)) (ix k))), (0, .ref oh), (1, .int n), (2, .int k), (3, .int part)]) hx hb dX11_odds_70 hl (by decide) rfl (fun ls hl => ?_)
              have lp_72_5 : ∀ (fu j : Nat), j ≤ (ix n) → (ix n) + 1 ≤ j + fu → ∀ (H : Heap) (locs : List Loc), hv g (va_I [cob oh 11 [.ref os, .ref ok, .ref ol, .ref ord, .int isk, .ref odd, .ref otp, .int (nI tpd), .ref olt, .int oat, .int obg, .int otk, .int ovl, .ref orw, .int (nI rmn), .ref oso, .ref osz, .ref oit, .ref oho, .ref ohe, .ref otr, .int (nI tcd), .int own_, .int opt], cin g os 51 (mR stp laws z cnt fogs arms kinds faiths places moved)]) s H locs [cob oh 11 [.ref os, .ref ok, .ref ol, .ref ord, .int isk, .ref odd, .ref otp, .int (nI tpd), .ref olt, .int oat, .int obg, .int otk, .int ovl, .ref orw, .int (nI rmn), .ref oso, .ref osz, .ref oit, .ref oho, .ref ohe, .ref otr, .int (nI tcd), .int own_, .int opt], cin g os 51 (mR stp laws z cnt fogs arms kinds faiths places moved)] → ∀ ls : Array Slot, lv_has ls 9 [(8, .int (nI j)), (6, .long (odB j)), (4, .long (odM (laws 3) (ix k) (wyR (nI (ix n)) (ix k)) j)), (0, .ref oh), (1, .int n), (2, .int k), (3, .int part)] → W p l e rmX11_odds s m ([.ref oh, .int n, .int k, .int part] : List Value).toArray below meth c H locs 0 0 (MQ below (mtS g [cob oh 11 [.ref os, .ref ok, .ref ol, .ref ord, .int isk, .ref odd, .ref otp, .int (nI tpd), .ref olt, .int oat, .int obg, .int otk, .int ovl, .ref orw, .int (nI rmn), .ref oso, .ref osz, .ref oit, .ref oho, .ref ohe, .ref otr, .int (nI tcd), .int own_, .int opt], cin g os 51 (mR stp laws z cnt fogs arms kinds faiths places moved)] (fun rv W => rv = (some (.long (if f_X10_isOutside n 0 8 = 0 then (if f_X10_isOutside k 0 (nI (ix n)) = 0 then (if f_X10_isOutside part 0 1 = 0 then f_X10_partOf (odM (laws 3) (ix k) (wyR (nI (ix n)) (ix k)) (ix n)) (odB (ix n)) part else -1) else -1) else -1))) ∧ W = [cob oh 11 [.ref os, .ref ok, .ref ol, .ref ord, .int isk, .ref odd, .ref otp, .int (nI tpd), .ref olt, .int oat, .int obg, .int otk, .int ovl, .ref orw, .int (nI rmn), .ref oso, .ref osz, .ref oit, .ref oho, .ref ohe, .ref otr, .int (nI tcd), .int own_, .int opt], cin g os 51 (mR stp laws z cnt fogs arms kinds faiths places moved)])) ([.ref oh, .int n, .int k, .int part] : List Value).toArray s 0 0 (va_I [cob oh 11 [.ref os, .ref ok, .ref ol, .ref ord, .int isk, .ref odd, .ref otp, .int (nI tpd), .ref olt, .int oat, .int obg, .int otk, .int ovl, .ref orw, .int (nI rmn), .ref oso, .ref osz, .ref oit, .ref oho, .ref ohe, .ref otr, .int (nI tcd), .int own_, .int opt], cin g os 51 (mR stp laws z cnt fogs arms kinds faiths places moved)])) (F0 m 72 ls []) := by
                intro fu
                induction fu with
                | zero =>
                  intro j h1 h2
                  exact absurd h2 (by omega)
                | succ fu ih_72 =>
                  intro j hk1_72 hk2_72 H locs hw ls hl
                  refine lv_iload hx hb dX11_odds_72 (lv_at hl 0 rfl) ?_
                  refine lv_iload_n hx hb dX11_odds_74 rfl (lv_at hl 4 rfl) ?_
                  refine lv_tope (y := nI (ix n)) hn.1 ?_
                  refine lv_icmp_ge (tgt := 123) hx hb dX11_odds_75 (by decide) (fun c_7 => ?_) (fun c_7 => ?_)
                  · have hjE : j = ix n := Nat.le_antisymm hk1_72 ((nI_leI (by omega) (by omega)).mp c_7)
                    subst hjE
                    refine lv_lload hx hb dX11_odds_123 (lv_at hl 2 rfl) ?_
                    refine lv_lload hx hb dX11_odds_125 (lv_at hl 1 rfl) ?_
                    refine lv_iload_n hx hb dX11_odds_127 rfl (lv_at hl 6 rfl) ?_
                    refine mcS hf hk hst hw (c_X11_partOf l g (odM (laws 3) (ix k) (wyR (nI (ix n)) (ix k)) (ix n)) (odB (ix n)) part (odB_nz _ hn2)) (va_cwS 3 hts gX11_odds_X11_partOf rfl rfl rfl hdS_X11_partOf ⟨Nat.le_of_ble_eq_true rfl, Nat.le_of_ble_eq_true rfl⟩) [] rfl rfl rfl hl.1 rfl (Nat.le_of_ble_eq_true rfl) dX11_odds_128 ⟨Nat.zero_le _, Nat.zero_le _⟩ (W' := [cob oh 11 [.ref os, .ref ok, .ref ol, .ref ord, .int isk, .ref odd, .ref otp, .int (nI tpd), .ref olt, .int oat, .int obg, .int otk, .int ovl, .ref orw, .int (nI rmn), .ref oso, .ref osz, .ref oit, .ref oho, .ref ohe, .ref otr, .int (nI tcd), .int own_, .int opt], cin g os 51 (mR stp laws z cnt fogs arms kinds faiths places moved)]) rfl (fun H locs hw => ?_)
                    exact rE_l hf hr hlk hw ⟨congrArg some (by simp only [if_pos (nO_1 c_1), if_pos (nO_1 c_2), if_pos (nO_1 c_3)]), rfl⟩ (show ([oh, os] : List Nat) = [oh, os] from rfl) dX11_odds_131
                  · have hjE : j < ix n := Nat.not_le.mp (fun h => c_7 ((nI_leI (by omega) (by omega)).mpr h))
                    refine lv_lload hx hb dX11_odds_78 (lv_at hl 2 rfl) ?_
                    refine lv_iload hx hb dX11_odds_80 (lv_at hl 0 rfl) ?_
                    refine lv_iload_n hx hb dX11_odds_82 rfl (lv_at hl 5 rfl) ?_
                    refine lv_tope (y := nI (ix k)) hk_.1 ?_
                    refine lv_icmp_ge (tgt := 96) hx hb dX11_odds_83 (by decide) (fun c_8 => ?_) (fun c_8 => ?_)
                    · refine lv_bipush (v := 100) hx hb dX11_odds_96 (by decide) ?_
                      refine lv_aload_n hx hb dX11_odds_98 rfl (lv_at hl 3 rfl) ?_
                      refine rg hf hk hw hinX11 0 rfl rfl 0 (by decide) w_1 rfl dX11_odds_99 ?_
                      refine lv_iconst (v := 4) hx hb dX11_odds_102 (by decide) ?_
                      refine rij hf hk hw 1 rfl (j := 4) (vp_in_nI (n := 4) (by omega) (by omega)) (rfl) dX11_odds_103 ?_
                      refine lv_tope (y := laws 3) (rfl) ?_
                      refine lv_isub hx hb dX11_odds_104 ?_
                      refine lv_i2l hx hb dX11_odds_105 rfl ?_
                      refine lv_lmul hx hb dX11_odds_106 ?_
                      refine lv_lstore (lv' := [(4, .long ((odM (laws 3) (ix k) (wyR (nI (ix n)) (ix k)) j) * ((100 - (laws 3)).toInt64))), (8, .int (nI j)), (6, .long (odB j)), (0, .ref oh), (1, .int n), (2, .int k), (3, .int part)]) hx hb dX11_odds_107 hl (by decide) rfl (fun ls hl => ?_)
                      refine lv_lload hx hb dX11_odds_109 (lv_at hl 2 rfl) ?_
                      refine lv_ldc2 hx hb hf.2.2.2.1 (hts _ w_2) dX11_odds_111 ?_
                      refine lv_lmul hx hb dX11_odds_114 ?_
                      refine lv_lstore (lv' := [(6, .long ((odB j) * 100)), (4, .long ((odM (laws 3) (ix k) (wyR (nI (ix n)) (ix k)) j) * ((100 - (laws 3)).toInt64))), (8, .int (nI j)), (0, .ref oh), (1, .int n), (2, .int k), (3, .int part)]) hx hb dX11_odds_115 hl (by decide) rfl (fun ls hl => ?_)
                      refine lv_iinc (v := nI (j + 1)) (lv' := [(8, .int (nI (j + 1))), (6, .long ((odB j) * 100)), (4, .long ((odM (laws 3) (ix k) (wyR (nI (ix n)) (ix k)) j) * ((100 - (laws 3)).toInt64))), (0, .ref oh), (1, .int n), (2, .int k), (3, .int part)]) hx hb dX11_odds_117 hl (k := 2) rfl (nI_1 _) (by decide) rfl (fun ls hl => ?_)
                      refine lv_goto (tgt := 72) hx hb dX11_odds_120 (by decide) ?_
                      have e_1 : (odB j) * 100 = odB (j + 1) := rfl
                      rw [e_1] at hl
                      have e_2 : (odM (laws 3) (ix k) (wyR (nI (ix n)) (ix k)) j) * ((100 - (laws 3)).toInt64) = odM (laws 3) (ix k) (wyR (nI (ix n)) (ix k)) (j + 1) := (congrArg (fun q => odM (laws 3) (ix k) (wyR (nI (ix n)) (ix k)) j * Int32.toInt64 q) (if_pos c_8)).symm
                      rw [e_2] at hl
                      exact ih_72 (j + 1) (by omega) (by omega) _ _ hw _ (lv_sub hl [0, 1, 2, 3, 4, 5, 6] rfl)
                    · refine lv_aload_n hx hb dX11_odds_86 rfl (lv_at hl 3 rfl) ?_
                      refine rg hf hk hw hinX11 0 rfl rfl 0 (by decide) w_1 rfl dX11_odds_87 ?_
                      refine lv_iconst (v := 4) hx hb dX11_odds_90 (by decide) ?_
                      refine rij hf hk hw 1 rfl (j := 4) (vp_in_nI (n := 4) (by omega) (by omega)) (rfl) dX11_odds_91 ?_
                      refine lv_tope (y := laws 3) (rfl) ?_
                      refine lv_i2l hx hb dX11_odds_92 rfl ?_
                      refine lv_goto (tgt := 106) hx hb dX11_odds_93 (by decide) ?_
                      refine lv_lmul hx hb dX11_odds_106 ?_
                      refine lv_lstore (lv' := [(4, .long ((odM (laws 3) (ix k) (wyR (nI (ix n)) (ix k)) j) * ((laws 3).toInt64))), (8, .int (nI j)), (6, .long (odB j)), (0, .ref oh), (1, .int n), (2, .int k), (3, .int part)]) hx hb dX11_odds_107 hl (by decide) rfl (fun ls hl => ?_)
                      refine lv_lload hx hb dX11_odds_109 (lv_at hl 2 rfl) ?_
                      refine lv_ldc2 hx hb hf.2.2.2.1 (hts _ w_2) dX11_odds_111 ?_
                      refine lv_lmul hx hb dX11_odds_114 ?_
                      refine lv_lstore (lv' := [(6, .long ((odB j) * 100)), (4, .long ((odM (laws 3) (ix k) (wyR (nI (ix n)) (ix k)) j) * ((laws 3).toInt64))), (8, .int (nI j)), (0, .ref oh), (1, .int n), (2, .int k), (3, .int part)]) hx hb dX11_odds_115 hl (by decide) rfl (fun ls hl => ?_)
                      refine lv_iinc (v := nI (j + 1)) (lv' := [(8, .int (nI (j + 1))), (6, .long ((odB j) * 100)), (4, .long ((odM (laws 3) (ix k) (wyR (nI (ix n)) (ix k)) j) * ((laws 3).toInt64))), (0, .ref oh), (1, .int n), (2, .int k), (3, .int part)]) hx hb dX11_odds_117 hl (k := 2) rfl (nI_1 _) (by decide) rfl (fun ls hl => ?_)
                      refine lv_goto (tgt := 72) hx hb dX11_odds_120 (by decide) ?_
                      have e_1 : (odB j) * 100 = odB (j + 1) := rfl
                      rw [e_1] at hl
                      have e_2 : (odM (laws 3) (ix k) (wyR (nI (ix n)) (ix k)) j) * ((laws 3).toInt64) = odM (laws 3) (ix k) (wyR (nI (ix n)) (ix k)) (j + 1) := (congrArg (fun q => odM (laws 3) (ix k) (wyR (nI (ix n)) (ix k)) j * Int32.toInt64 q) (if_neg c_8)).symm
                      rw [e_2] at hl
                      exact ih_72 (j + 1) (by omega) (by omega) _ _ hw _ (lv_sub hl [0, 1, 2, 3, 4, 5, 6] rfl)
              exact lp_72_5 ((ix n) + 1) 0 (by omega) (by omega) _ _ hw _ (lv_sub hl [0, 1, 2, 3, 4, 5, 6] rfl)
            · have hiE : j0 < ix k := Nat.not_le.mp (fun h => c_5 ((nI_leI (by omega) (by omega)).mpr h))
              refine lv_lload hx hb dX11_odds_47 (lv_at hl 2 rfl) ?_
              refine lv_iload_n hx hb dX11_odds_49 rfl (lv_at hl 4 rfl) ?_
              refine lv_tope (y := nI (ix n)) hn.1 ?_
              refine lv_iload hx hb dX11_odds_50 (lv_at hl 0 rfl) ?_
              refine lv_isub hx hb dX11_odds_52 ?_
              refine lv_i2l hx hb dX11_odds_53 rfl ?_
              refine lv_lmul hx hb dX11_odds_54 ?_
              refine lv_iload hx hb dX11_odds_55 (lv_at hl 0 rfl) ?_
              refine lv_iconst (v := 1) hx hb dX11_odds_57 (by decide) ?_
              refine lv_iadd hx hb dX11_odds_58 ?_
              refine lv_i2l hx hb dX11_odds_59 rfl ?_
              refine lv_ldiv hx hb dX11_odds_60 (wy_ne (by omega)) ?_
              refine lv_lstore (lv' := [(4, .long (((wyR (nI (ix n)) j0) * (((nI (ix n)) - (nI j0)).toInt64)) / (((nI j0) + 1).toInt64))), (8, .int (nI j0)), (6, .long 1), (0, .ref oh), (1, .int n), (2, .int k), (3, .int part)]) hx hb dX11_odds_61 hl (by decide) rfl (fun ls hl => ?_)
              refine lv_iinc (v := nI (j0 + 1)) (lv' := [(8, .int (nI (j0 + 1))), (4, .long (((wyR (nI (ix n)) j0) * (((nI (ix n)) - (nI j0)).toInt64)) / (((nI j0) + 1).toInt64))), (6, .long 1), (0, .ref oh), (1, .int n), (2, .int k), (3, .int part)]) hx hb dX11_odds_63 hl (k := 1) rfl (nI_1 _) (by decide) rfl (fun ls hl => ?_)
              refine lv_goto (tgt := 41) hx hb dX11_odds_66 (by decide) ?_
              have e_1 : ((wyR (nI (ix n)) j0) * (((nI (ix n)) - (nI j0)).toInt64)) / (((nI j0) + 1).toInt64) = wyR (nI (ix n)) (j0 + 1) := rfl
              rw [e_1] at hl
              exact ih_41 (j0 + 1) (by omega) (by omega) _ _ hw _ (lv_sub hl [0, 2, 1, 3, 4, 5, 6] rfl)
        exact lp_41_3 ((ix k) + 1) 0 (by omega) (by omega) _ _ hw _ (lv_sub hl [0, 1, 2, 3, 4, 5, 6] rfl)
      · refine lv_ldc2 hx hb hf.2.2.2.1 (hts _ w_0) dX11_odds_28 ?_
        exact rE_l hf hr hlk hw ⟨congrArg some (by simp only [if_pos (nO_1 c_1), if_pos (nO_1 c_2), if_neg (nO_0 c_3)]), rfl⟩ (show ([oh, os] : List Nat) = [oh, os] from rfl) dX11_odds_31
def f_X11_hope (laws : Nat → Int32) (n : Int32) (part : Int32) : Int64 := if (nO n 0 99) = 0 then (-1) else (if (nO part 0 1) = 0 then (-1) else (f_X10_partOf (n.toInt64 * ((laws 3).toInt64)) 100 part))
abbrev rmX11_hope : Room := { frames := 1, cells := 0, slots := 0, locals := 30 }
set_option maxHeartbeats 4000000 in
set_option maxRecDepth 100000 in
theorem c_X11_hope (l : Launch) (g : GG) (oh : Nat) (os : Nat) (ok : Nat) (ol : Nat) (ord : Nat) (odd : Nat) (otp : Nat) (olt : Nat) (orw : Nat) (oso : Nat) (osz : Nat) (oit : Nat) (oho : Nat) (ohe : Nat) (otr : Nat) (stp : Nat) (laws : Nat → Int32) (z : Int32) (cnt : Nat) (fogs : Nat → Int32) (arms : Nat → Int32) (kinds : Nat → Int32) (faiths : Nat → Int32) (places : Nat → Int32) (moved : Nat → Int32) (isk : Int32) (tpd : Nat) (oat : Int32) (obg : Int32) (otk : Int32) (ovl : Int32) (rmn : Nat) (tcd : Nat) (own_ : Int32) (opt : Int32) (n : Int32) (part : Int32) : mtR l g yX11_hope wsX11_hope rmX11_hope [.ref oh, .int n, .int part] [cob oh 11 [.ref os, .ref ok, .ref ol, .ref ord, .int isk, .ref odd, .ref otp, .int (nI tpd), .ref olt, .int oat, .int obg, .int otk, .int ovl, .ref orw, .int (nI rmn), .ref oso, .ref osz, .ref oit, .ref oho, .ref ohe, .ref otr, .int (nI tcd), .int own_, .int opt], cin g os 51 (mR stp laws z cnt fogs arms kinds faiths places moved)] (fun rv W => rv = (some (.long (f_X11_hope laws n part))) ∧ W = [cob oh 11 [.ref os, .ref ok, .ref ol, .ref ord, .int isk, .ref odd, .ref otp, .int (nI tpd), .ref olt, .int oat, .int obg, .int otk, .int ovl, .ref orw, .int (nI rmn), .ref oso, .ref osz, .ref oit, .ref oho, .ref ohe, .ref otr, .int (nI tcd), .int own_, .int opt], cin g os 51 (mR stp laws z cnt fogs arms kinds faiths places moved)]) := by
  refine mtR.of (cc := cX11_hope) (nL := 3) (ret := (some .long)) (own := RX11) (by decide +kernel) rfl rfl (Nat.le_of_ble_eq_true rfl) (fun p e s m below meth c hf hr hlk _ hk hst hw ls hl => ?_)
  have hx := hf.1
  have hb := hf.2.1
  have hts := hf.2.2.2.2
  have hl : lv_has ls 3 [(0, .ref oh), (1, .int n), (2, .int part)] := hl
  have w_0 : Cond.constantLong RX11 215 (-1) ∈ wsX11_hope := List.mem_of_getElem? (i := 3) rfl
  have hinX11 : ∀ w ∈ u_ws RX11 TX11 24, w ∈ wsX11_hope := fun w h => List.mem_cons_of_mem _ (List.mem_append_right _ h)
  have w_1 : Cond.fieldLink RX11 9 "LightManModel" "s" "[I" ∈ wsX11_hope := List.mem_of_getElem? (i := 1) rfl
  have w_2 : Cond.constantLong RX11 217 (100) ∈ wsX11_hope := List.mem_of_getElem? (i := 2) rfl
  refine lv_iload_n hx hb dX11_hope_0 rfl (lv_at hl 1 rfl) ?_
  refine lv_iconst (v := 0) hx hb dX11_hope_1 (by decide) ?_
  refine lv_bipush (v := 99) hx hb dX11_hope_2 (by decide) ?_
  refine mcS hf hk hst hw (c_X11_in1 l g n 0 99) (va_cwS 3 hts gX11_hope_X11_in1 rfl rfl rfl hdS_X11_in1 ⟨Nat.le_of_ble_eq_true rfl, Nat.le_of_ble_eq_true rfl⟩) [] rfl rfl rfl hl.1 rfl (Nat.le_of_ble_eq_true rfl) dX11_hope_4 ⟨Nat.zero_le _, Nat.zero_le _⟩ (W' := [cob oh 11 [.ref os, .ref ok, .ref ol, .ref ord, .int isk, .ref odd, .ref otp, .int (nI tpd), .ref olt, .int oat, .int obg, .int otk, .int ovl, .ref orw, .int (nI rmn), .ref oso, .ref osz, .ref oit, .ref oho, .ref ohe, .ref otr, .int (nI tcd), .int own_, .int opt], cin g os 51 (mR stp laws z cnt fogs arms kinds faiths places moved)]) rfl (fun H locs hw => ?_)
  refine lv_if_eq (tgt := 39) hx hb dX11_hope_7 (by decide) (fun c_1 => ?_) (fun c_1 => ?_)
  · refine lv_ldc2 hx hb hf.2.2.2.1 (hts _ w_0) dX11_hope_39 ?_
    exact rE_l hf hr hlk hw ⟨congrArg some (by simp only [f_X11_hope, if_pos c_1]), rfl⟩ (show ([oh, os] : List Nat) = [oh, os] from rfl) dX11_hope_42
  · refine lv_iload_n hx hb dX11_hope_10 rfl (lv_at hl 2 rfl) ?_
    refine lv_iconst (v := 0) hx hb dX11_hope_11 (by decide) ?_
    refine lv_iconst (v := 1) hx hb dX11_hope_12 (by decide) ?_
    refine mcS hf hk hst hw (c_X11_in1 l g part 0 1) (va_cwS 3 hts gX11_hope_X11_in1 rfl rfl rfl hdS_X11_in1 ⟨Nat.le_of_ble_eq_true rfl, Nat.le_of_ble_eq_true rfl⟩) [] rfl rfl rfl hl.1 rfl (Nat.le_of_ble_eq_true rfl) dX11_hope_13 ⟨Nat.zero_le _, Nat.zero_le _⟩ (W' := [cob oh 11 [.ref os, .ref ok, .ref ol, .ref ord, .int isk, .ref odd, .ref otp, .int (nI tpd), .ref olt, .int oat, .int obg, .int otk, .int ovl, .ref orw, .int (nI rmn), .ref oso, .ref osz, .ref oit, .ref oho, .ref ohe, .ref otr, .int (nI tcd), .int own_, .int opt], cin g os 51 (mR stp laws z cnt fogs arms kinds faiths places moved)]) rfl (fun H locs hw => ?_)
    refine lv_if_eq (tgt := 39) hx hb dX11_hope_16 (by decide) (fun c_2 => ?_) (fun c_2 => ?_)
    · refine lv_ldc2 hx hb hf.2.2.2.1 (hts _ w_0) dX11_hope_39 ?_
      exact rE_l hf hr hlk hw ⟨congrArg some (by simp only [f_X11_hope, if_neg c_1, if_pos c_2]), rfl⟩ (show ([oh, os] : List Nat) = [oh, os] from rfl) dX11_hope_42
    · refine lv_iload_n hx hb dX11_hope_19 rfl (lv_at hl 1 rfl) ?_
      refine lv_i2l hx hb dX11_hope_20 rfl ?_
      refine lv_aload_n hx hb dX11_hope_21 rfl (lv_at hl 0 rfl) ?_
      refine rg hf hk hw hinX11 0 rfl rfl 0 (by decide) w_1 rfl dX11_hope_22 ?_
      refine lv_iconst (v := 4) hx hb dX11_hope_25 (by decide) ?_
      refine rij hf hk hw 1 rfl (j := 4) (vp_in_nI (n := 4) (by omega) (by omega)) (rfl) dX11_hope_26 ?_
      refine lv_tope (y := laws 3) (rfl) ?_
      refine lv_i2l hx hb dX11_hope_27 rfl ?_
      refine lv_lmul hx hb dX11_hope_28 ?_
      refine lv_ldc2 hx hb hf.2.2.2.1 (hts _ w_2) dX11_hope_29 ?_
      refine lv_iload_n hx hb dX11_hope_32 rfl (lv_at hl 2 rfl) ?_
      refine mcS hf hk hst hw (c_X11_partOf l g (n.toInt64 * ((laws 3).toInt64)) 100 part (by decide)) (va_cwS 3 hts gX11_hope_X11_partOf rfl rfl rfl hdS_X11_partOf ⟨Nat.le_of_ble_eq_true rfl, Nat.le_of_ble_eq_true rfl⟩) [] rfl rfl rfl hl.1 rfl (Nat.le_of_ble_eq_true rfl) dX11_hope_33 ⟨Nat.zero_le _, Nat.zero_le _⟩ (W' := [cob oh 11 [.ref os, .ref ok, .ref ol, .ref ord, .int isk, .ref odd, .ref otp, .int (nI tpd), .ref olt, .int oat, .int obg, .int otk, .int ovl, .ref orw, .int (nI rmn), .ref oso, .ref osz, .ref oit, .ref oho, .ref ohe, .ref otr, .int (nI tcd), .int own_, .int opt], cin g os 51 (mR stp laws z cnt fogs arms kinds faiths places moved)]) rfl (fun H locs hw => ?_)
      refine lv_goto (tgt := 42) hx hb dX11_hope_36 (by decide) ?_
      exact rE_l hf hr hlk hw ⟨congrArg some (by simp only [f_X11_hope, if_neg c_1, if_neg c_2]), rfl⟩ (show ([oh, os] : List Nat) = [oh, os] from rfl) dX11_hope_42
def f_X11_item (srt : Nat → Int32) (its : Nat → Int32) (sheet : Int32) (sort : Int32) (i_ : Int32) (isz : Nat) : Int32 := if (nO sheet 0 3) = 0 then (-1) else (if (nO sort 0 3) = 0 then (-1) else (if 0 ≤ (srt (ix sheet)) then (if (srt (ix sheet)) = sort then (if (nO i_ 0 ((nI isz) - 1)) = 0 then (-12) else (its (40 * ix sheet + ix i_))) else (-13)) else (-11)))
abbrev rmX11_item : Room := { frames := 2, cells := 0, slots := 0, locals := 42 }
set_option maxHeartbeats 4000000 in
set_option maxRecDepth 100000 in
theorem c_X11_item (l : Launch) (g : GG) (oh : Nat) (os : Nat) (ok : Nat) (ol : Nat) (ord : Nat) (odd : Nat) (otp : Nat) (olt : Nat) (orw : Nat) (oso : Nat) (osz : Nat) (oit : Nat) (oho : Nat) (ohe : Nat) (otr : Nat) (isk : Int32) (tpd : Nat) (oat : Int32) (obg : Int32) (otk : Int32) (ovl : Int32) (rmn : Nat) (tcd : Nat) (own_ : Int32) (opt : Int32) (srt : Nat → Int32) (szs : Nat → Int32) (its : Nat → Int32) (sheet : Int32) (sort : Int32) (i_ : Int32) (isz : Nat) (hz40 : isz ≤ 40) (hzz : szs (ix sheet) = nI isz) : mtR l g yX11_item wsX11_item rmX11_item [.ref oh, .int sheet, .int sort, .int i_] [cob oh 11 [.ref os, .ref ok, .ref ol, .ref ord, .int isk, .ref odd, .ref otp, .int (nI tpd), .ref olt, .int oat, .int obg, .int otk, .int ovl, .ref orw, .int (nI rmn), .ref oso, .ref osz, .ref oit, .ref oho, .ref ohe, .ref otr, .int (nI tcd), .int own_, .int opt], cin g oso 4 srt, cin g osz 4 szs, cin g oit 160 its] (fun rv W => rv = (some (.int (f_X11_item srt its sheet sort i_ isz))) ∧ W = [cob oh 11 [.ref os, .ref ok, .ref ol, .ref ord, .int isk, .ref odd, .ref otp, .int (nI tpd), .ref olt, .int oat, .int obg, .int otk, .int ovl, .ref orw, .int (nI rmn), .ref oso, .ref osz, .ref oit, .ref oho, .ref ohe, .ref otr, .int (nI tcd), .int own_, .int opt], cin g oso 4 srt, cin g osz 4 szs, cin g oit 160 its]) := by
  refine mtR.of (cc := cX11_item) (nL := 4) (ret := (some .int)) (own := RX11) (by decide +kernel) rfl rfl (Nat.le_of_ble_eq_true rfl) (fun p e s m below meth c hf hr hlk _ hk hst hw ls hl => ?_)
  have hx := hf.1
  have hb := hf.2.1
  have hts := hf.2.2.2.2
  have hl : lv_has ls 4 [(0, .ref oh), (1, .int sheet), (2, .int sort), (3, .int i_)] := hl
  have hinX11 : ∀ w ∈ u_ws RX11 TX11 24, w ∈ wsX11_item := fun w h => List.mem_cons_of_mem _ (List.mem_append_right _ h)
  have w_0 : Cond.fieldLink RX11 35 "LightManModel" "sorts" "[I" ∈ wsX11_item := List.mem_of_getElem? (i := 1) rfl
  have w_1 : Cond.fieldLink RX11 38 "LightManModel" "sizes" "[I" ∈ wsX11_item := List.mem_of_getElem? (i := 2) rfl
  have w_2 : Cond.fieldLink RX11 41 "LightManModel" "items" "[I" ∈ wsX11_item := List.mem_of_getElem? (i := 3) rfl
  refine lv_iload_n hx hb dX11_item_0 rfl (lv_at hl 1 rfl) ?_
  refine mcS hf hk hst hw (c_X11_isSheet l g sheet) (va_cwS 1 hts gX11_item_X11_isSheet rfl rfl rfl hdS_X11_isSheet ⟨Nat.le_of_ble_eq_true rfl, Nat.le_of_ble_eq_true rfl⟩) [] rfl rfl rfl hl.1 rfl (Nat.le_of_ble_eq_true rfl) dX11_item_1 ⟨Nat.zero_le _, Nat.zero_le _⟩ (W' := [cob oh 11 [.ref os, .ref ok, .ref ol, .ref ord, .int isk, .ref odd, .ref otp, .int (nI tpd), .ref olt, .int oat, .int obg, .int otk, .int ovl, .ref orw, .int (nI rmn), .ref oso, .ref osz, .ref oit, .ref oho, .ref ohe, .ref otr, .int (nI tcd), .int own_, .int opt], cin g oso 4 srt, cin g osz 4 szs, cin g oit 160 its]) rfl (fun H locs hw => ?_)
  refine lv_if_eq (tgt := 16) hx hb dX11_item_4 (by decide) (fun c_1 => ?_) (fun c_1 => ?_)
  · refine lv_iconst (v := (-1)) hx hb dX11_item_16 (by decide) ?_
    exact rE_i hf hr hlk hw ⟨congrArg some (by simp only [f_X11_item, if_pos c_1]), rfl⟩ (show ([oh, oso, osz, oit] : List Nat) = [oh, oso, osz, oit] from rfl) dX11_item_17
  · have hs := out_n (N := 3) (by decide) (nO_1 c_1)
    have hs2 := hs.2
    refine lv_iload_n hx hb dX11_item_7 rfl (lv_at hl 2 rfl) ?_
    refine lv_iconst (v := 0) hx hb dX11_item_8 (by decide) ?_
    refine lv_iconst (v := 3) hx hb dX11_item_9 (by decide) ?_
    refine mcS hf hk hst hw (c_X11_in1 l g sort 0 3) (va_cwS 3 hts gX11_item_X11_in1 rfl rfl rfl hdS_X11_in1 ⟨Nat.le_of_ble_eq_true rfl, Nat.le_of_ble_eq_true rfl⟩) [] rfl rfl rfl hl.1 rfl (Nat.le_of_ble_eq_true rfl) dX11_item_10 ⟨Nat.zero_le _, Nat.zero_le _⟩ (W' := [cob oh 11 [.ref os, .ref ok, .ref ol, .ref ord, .int isk, .ref odd, .ref otp, .int (nI tpd), .ref olt, .int oat, .int obg, .int otk, .int ovl, .ref orw, .int (nI rmn), .ref oso, .ref osz, .ref oit, .ref oho, .ref ohe, .ref otr, .int (nI tcd), .int own_, .int opt], cin g oso 4 srt, cin g osz 4 szs, cin g oit 160 its]) rfl (fun H locs hw => ?_)
    refine lv_if_ne (tgt := 18) hx hb dX11_item_13 (by decide) (fun c_2 => ?_) (fun c_2 => ?_)
    · refine lv_aload_n hx hb dX11_item_18 rfl (lv_at hl 0 rfl) ?_
      refine rg hf hk hw hinX11 0 rfl rfl 15 (by decide) w_0 rfl dX11_item_19 ?_
      refine lv_iload_n hx hb dX11_item_22 rfl (lv_at hl 1 rfl) ?_
      refine lv_tope (y := nI (ix sheet)) hs.1 ?_
      refine rij hf hk hw 1 rfl (j := ix sheet) (vp_in_nI (by omega) (by omega)) (nI_clamp (by omega)) dX11_item_23 ?_
      refine lv_if_ge (tgt := 30) hx hb dX11_item_24 (by decide) (fun c_3 => ?_) (fun c_3 => ?_)
      · refine lv_aload_n hx hb dX11_item_30 rfl (lv_at hl 0 rfl) ?_
        refine rg hf hk hw hinX11 0 rfl rfl 15 (by decide) w_0 rfl dX11_item_31 ?_
        refine lv_iload_n hx hb dX11_item_34 rfl (lv_at hl 1 rfl) ?_
        refine lv_tope (y := nI (ix sheet)) hs.1 ?_
        refine rij hf hk hw 1 rfl (j := ix sheet) (vp_in_nI (by omega) (by omega)) (nI_clamp (by omega)) dX11_item_35 ?_
        refine lv_iload_n hx hb dX11_item_36 rfl (lv_at hl 2 rfl) ?_
        refine lv_icmp_eq (tgt := 43) hx hb dX11_item_37 (by decide) (fun c_4 => ?_) (fun c_4 => ?_)
        · refine lv_iload_n hx hb dX11_item_43 rfl (lv_at hl 3 rfl) ?_
          refine lv_iconst (v := 0) hx hb dX11_item_44 (by decide) ?_
          refine lv_aload_n hx hb dX11_item_45 rfl (lv_at hl 0 rfl) ?_
          refine rg hf hk hw hinX11 0 rfl rfl 16 (by decide) w_1 rfl dX11_item_46 ?_
          refine lv_iload_n hx hb dX11_item_49 rfl (lv_at hl 1 rfl) ?_
          refine lv_tope (y := nI (ix sheet)) hs.1 ?_
          refine rij hf hk hw 2 rfl (j := ix sheet) (vp_in_nI (by omega) (by omega)) (nI_clamp (by omega)) dX11_item_50 ?_
          refine lv_tope (y := nI isz) (hzz) ?_
          refine lv_iconst (v := 1) hx hb dX11_item_51 (by decide) ?_
          refine lv_isub hx hb dX11_item_52 ?_
          refine mcS hf hk hst hw (c_X11_in1 l g i_ 0 ((nI isz) - 1)) (va_cwS 3 hts gX11_item_X11_in1 rfl rfl rfl hdS_X11_in1 ⟨Nat.le_of_ble_eq_true rfl, Nat.le_of_ble_eq_true rfl⟩) [] rfl rfl rfl hl.1 rfl (Nat.le_of_ble_eq_true rfl) dX11_item_53 ⟨Nat.zero_le _, Nat.zero_le _⟩ (W' := [cob oh 11 [.ref os, .ref ok, .ref ol, .ref ord, .int isk, .ref odd, .ref otp, .int (nI tpd), .ref olt, .int oat, .int obg, .int otk, .int ovl, .ref orw, .int (nI rmn), .ref oso, .ref osz, .ref oit, .ref oho, .ref ohe, .ref otr, .int (nI tcd), .int own_, .int opt], cin g oso 4 srt, cin g osz 4 szs, cin g oit 160 its]) rfl (fun H locs hw => ?_)
          refine lv_if_eq (tgt := 73) hx hb dX11_item_56 (by decide) (fun c_5 => ?_) (fun c_5 => ?_)
          · refine lv_bipush (v := (-12)) hx hb dX11_item_73 (by decide) ?_
            exact rE_i hf hr hlk hw ⟨congrArg some (by simp only [f_X11_item, if_neg c_1, if_neg c_2, if_pos c_3, if_pos c_4, if_pos c_5]), rfl⟩ (show ([oh, oso, osz, oit] : List Nat) = [oh, oso, osz, oit] from rfl) dX11_item_75
          · have hi_ := out_m1 hz40 (nO_1 c_5)
            have hi2 := hi_.2
            refine lv_aload_n hx hb dX11_item_59 rfl (lv_at hl 0 rfl) ?_
            refine rg hf hk hw hinX11 0 rfl rfl 17 (by decide) w_2 rfl dX11_item_60 ?_
            refine lv_bipush (v := 40) hx hb dX11_item_63 (by decide) ?_
            refine lv_iload_n hx hb dX11_item_65 rfl (lv_at hl 1 rfl) ?_
            refine lv_tope (y := nI (ix sheet)) hs.1 ?_
            refine lv_imul hx hb dX11_item_66 ?_
            refine lv_tope (y := nI (40 * ix sheet)) (pk_mul 40 _) ?_
            refine lv_iload_n hx hb dX11_item_67 rfl (lv_at hl 3 rfl) ?_
            refine lv_tope (y := nI (ix i_)) hi_.1 ?_
            refine lv_iadd hx hb dX11_item_68 ?_
            refine lv_tope (y := nI (40 * ix sheet + ix i_)) (nI_add _ _) ?_
            refine rij hf hk hw 3 rfl (j := 40 * ix sheet + ix i_) (vp_in_nI (by omega) (by omega)) (nI_clamp (by omega)) dX11_item_69 ?_
            refine lv_goto (tgt := 75) hx hb dX11_item_70 (by decide) ?_
            exact rE_i hf hr hlk hw ⟨congrArg some (by simp only [f_X11_item, if_neg c_1, if_neg c_2, if_pos c_3, if_pos c_4, if_neg c_5]), rfl⟩ (show ([oh, oso, osz, oit] : List Nat) = [oh, oso, osz, oit] from rfl) dX11_item_75
        · refine lv_bipush (v := (-13)) hx hb dX11_item_40 (by decide) ?_
          exact rE_i hf hr hlk hw ⟨congrArg some (by simp only [f_X11_item, if_neg c_1, if_neg c_2, if_pos c_3, if_neg c_4]), rfl⟩ (show ([oh, oso, osz, oit] : List Nat) = [oh, oso, osz, oit] from rfl) dX11_item_42
      · refine lv_bipush (v := (-11)) hx hb dX11_item_27 (by decide) ?_
        exact rE_i hf hr hlk hw ⟨congrArg some (by simp only [f_X11_item, if_neg c_1, if_neg c_2, if_neg c_3]), rfl⟩ (show ([oh, oso, osz, oit] : List Nat) = [oh, oso, osz, oit] from rfl) dX11_item_29
    · refine lv_iconst (v := (-1)) hx hb dX11_item_16 (by decide) ?_
      exact rE_i hf hr hlk hw ⟨congrArg some (by simp only [f_X11_item, if_neg c_1, if_pos c_2]), rfl⟩ (show ([oh, oso, osz, oit] : List Nat) = [oh, oso, osz, oit] from rfl) dX11_item_17
def f_X11_put (srt : Nat → Int32) (sheet : Int32) (i_ : Int32) (isz : Nat) : Int32 := if (nO sheet 0 3) = 0 then (-1) else (if 0 ≤ (srt (ix sheet)) then (if (nO i_ 0 ((nI isz) - 1)) = 0 then (-12) else 1) else (-11))
def f_X11_put_w1 (srt : Nat → Int32) (its : Nat → Int32) (sheet : Int32) (i_ : Int32) (v : Int32) (isz : Nat) : Nat → Int32 := if (nO sheet 0 3) = 0 then its else (if 0 ≤ (srt (ix sheet)) then (if (nO i_ 0 ((nI isz) - 1)) = 0 then its else (if (srt (ix sheet)) = 0 then (upd its (40 * ix sheet + ix i_) v.toInt8.toInt32) else (if (srt (ix sheet)) = 1 then (upd its (40 * ix sheet + ix i_) v.toInt16.toInt32) else (upd its (40 * ix sheet + ix i_) v)))) else its)
abbrev rmX11_put : Room := { frames := 2, cells := 0, slots := 0, locals := 42 }
set_option maxHeartbeats 4000000 in
set_option maxRecDepth 100000 in
theorem c_X11_put (l : Launch) (g : GG) (oh : Nat) (os : Nat) (ok : Nat) (ol : Nat) (ord : Nat) (odd : Nat) (otp : Nat) (olt : Nat) (orw : Nat) (oso : Nat) (osz : Nat) (oit : Nat) (oho : Nat) (ohe : Nat) (otr : Nat) (isk : Int32) (tpd : Nat) (oat : Int32) (obg : Int32) (otk : Int32) (ovl : Int32) (rmn : Nat) (tcd : Nat) (own_ : Int32) (opt : Int32) (srt : Nat → Int32) (szs : Nat → Int32) (its : Nat → Int32) (sheet : Int32) (i_ : Int32) (v : Int32) (isz : Nat) (hz40 : isz ≤ 40) (hzz : szs (ix sheet) = nI isz) : mtR l g yX11_put wsX11_put rmX11_put [.ref oh, .int sheet, .int i_, .int v] [cob oh 11 [.ref os, .ref ok, .ref ol, .ref ord, .int isk, .ref odd, .ref otp, .int (nI tpd), .ref olt, .int oat, .int obg, .int otk, .int ovl, .ref orw, .int (nI rmn), .ref oso, .ref osz, .ref oit, .ref oho, .ref ohe, .ref otr, .int (nI tcd), .int own_, .int opt], cin g oso 4 srt, cin g osz 4 szs, cin g oit 160 its] (fun rv W => rv = (some (.int (f_X11_put srt sheet i_ isz))) ∧ W = [cob oh 11 [.ref os, .ref ok, .ref ol, .ref ord, .int isk, .ref odd, .ref otp, .int (nI tpd), .ref olt, .int oat, .int obg, .int otk, .int ovl, .ref orw, .int (nI rmn), .ref oso, .ref osz, .ref oit, .ref oho, .ref ohe, .ref otr, .int (nI tcd), .int own_, .int opt], cin g oso 4 srt, cin g osz 4 szs, cin g oit 160 (f_X11_put_w1 srt its sheet i_ v isz)]) := by
  refine mtR.of (cc := cX11_put) (nL := 4) (ret := (some .int)) (own := RX11) (by decide +kernel) rfl rfl (Nat.le_of_ble_eq_true rfl) (fun p e s m below meth c hf hr hlk _ hk hst hw ls hl => ?_)
  have hx := hf.1
  have hb := hf.2.1
  have hts := hf.2.2.2.2
  have hl : lv_has ls 4 [(0, .ref oh), (1, .int sheet), (2, .int i_), (3, .int v)] := hl
  have hinX11 : ∀ w ∈ u_ws RX11 TX11 24, w ∈ wsX11_put := fun w h => List.mem_cons_of_mem _ (List.mem_append_right _ h)
  have w_0 : Cond.fieldLink RX11 35 "LightManModel" "sorts" "[I" ∈ wsX11_put := List.mem_of_getElem? (i := 1) rfl
  have w_1 : Cond.fieldLink RX11 38 "LightManModel" "sizes" "[I" ∈ wsX11_put := List.mem_of_getElem? (i := 2) rfl
  have w_2 : Cond.fieldLink RX11 41 "LightManModel" "items" "[I" ∈ wsX11_put := List.mem_of_getElem? (i := 3) rfl
  refine lv_iload_n hx hb dX11_put_0 rfl (lv_at hl 1 rfl) ?_
  refine mcS hf hk hst hw (c_X11_isSheet l g sheet) (va_cwS 1 hts gX11_put_X11_isSheet rfl rfl rfl hdS_X11_isSheet ⟨Nat.le_of_ble_eq_true rfl, Nat.le_of_ble_eq_true rfl⟩) [] rfl rfl rfl hl.1 rfl (Nat.le_of_ble_eq_true rfl) dX11_put_1 ⟨Nat.zero_le _, Nat.zero_le _⟩ (W' := [cob oh 11 [.ref os, .ref ok, .ref ol, .ref ord, .int isk, .ref odd, .ref otp, .int (nI tpd), .ref olt, .int oat, .int obg, .int otk, .int ovl, .ref orw, .int (nI rmn), .ref oso, .ref osz, .ref oit, .ref oho, .ref ohe, .ref otr, .int (nI tcd), .int own_, .int opt], cin g oso 4 srt, cin g osz 4 szs, cin g oit 160 its]) rfl (fun H locs hw => ?_)
  refine lv_if_ne (tgt := 9) hx hb dX11_put_4 (by decide) (fun c_1 => ?_) (fun c_1 => ?_)
  · have hs := out_n (N := 3) (by decide) (nO_1 c_1)
    have hs2 := hs.2
    refine lv_aload_n hx hb dX11_put_9 rfl (lv_at hl 0 rfl) ?_
    refine rg hf hk hw hinX11 0 rfl rfl 15 (by decide) w_0 rfl dX11_put_10 ?_
    refine lv_iload_n hx hb dX11_put_13 rfl (lv_at hl 1 rfl) ?_
    refine lv_tope (y := nI (ix sheet)) hs.1 ?_
    refine rij hf hk hw 1 rfl (j := ix sheet) (vp_in_nI (by omega) (by omega)) (nI_clamp (by omega)) dX11_put_14 ?_
    refine lv_if_ge (tgt := 21) hx hb dX11_put_15 (by decide) (fun c_2 => ?_) (fun c_2 => ?_)
    · refine lv_iload_n hx hb dX11_put_21 rfl (lv_at hl 2 rfl) ?_
      refine lv_iconst (v := 0) hx hb dX11_put_22 (by decide) ?_
      refine lv_aload_n hx hb dX11_put_23 rfl (lv_at hl 0 rfl) ?_
      refine rg hf hk hw hinX11 0 rfl rfl 16 (by decide) w_1 rfl dX11_put_24 ?_
      refine lv_iload_n hx hb dX11_put_27 rfl (lv_at hl 1 rfl) ?_
      refine lv_tope (y := nI (ix sheet)) hs.1 ?_
      refine rij hf hk hw 2 rfl (j := ix sheet) (vp_in_nI (by omega) (by omega)) (nI_clamp (by omega)) dX11_put_28 ?_
      refine lv_tope (y := nI isz) (hzz) ?_
      refine lv_iconst (v := 1) hx hb dX11_put_29 (by decide) ?_
      refine lv_isub hx hb dX11_put_30 ?_
      refine mcS hf hk hst hw (c_X11_in1 l g i_ 0 ((nI isz) - 1)) (va_cwS 3 hts gX11_put_X11_in1 rfl rfl rfl hdS_X11_in1 ⟨Nat.le_of_ble_eq_true rfl, Nat.le_of_ble_eq_true rfl⟩) [] rfl rfl rfl hl.1 rfl (Nat.le_of_ble_eq_true rfl) dX11_put_31 ⟨Nat.zero_le _, Nat.zero_le _⟩ (W' := [cob oh 11 [.ref os, .ref ok, .ref ol, .ref ord, .int isk, .ref odd, .ref otp, .int (nI tpd), .ref olt, .int oat, .int obg, .int otk, .int ovl, .ref orw, .int (nI rmn), .ref oso, .ref osz, .ref oit, .ref oho, .ref ohe, .ref otr, .int (nI tcd), .int own_, .int opt], cin g oso 4 srt, cin g osz 4 szs, cin g oit 160 its]) rfl (fun H locs hw => ?_)
      refine lv_if_ne (tgt := 40) hx hb dX11_put_34 (by decide) (fun c_3 => ?_) (fun c_3 => ?_)
      · have hi_ := out_m1 hz40 (nO_1 c_3)
        have hi2 := hi_.2
        refine lv_aload_n hx hb dX11_put_40 rfl (lv_at hl 0 rfl) ?_
        refine rg hf hk hw hinX11 0 rfl rfl 17 (by decide) w_2 rfl dX11_put_41 ?_
        refine lv_bipush (v := 40) hx hb dX11_put_44 (by decide) ?_
        refine lv_iload_n hx hb dX11_put_46 rfl (lv_at hl 1 rfl) ?_
        refine lv_tope (y := nI (ix sheet)) hs.1 ?_
        refine lv_imul hx hb dX11_put_47 ?_
        refine lv_tope (y := nI (40 * ix sheet)) (pk_mul 40 _) ?_
        refine lv_iload_n hx hb dX11_put_48 rfl (lv_at hl 2 rfl) ?_
        refine lv_tope (y := nI (ix i_)) hi_.1 ?_
        refine lv_iadd hx hb dX11_put_49 ?_
        refine lv_tope (y := nI (40 * ix sheet + ix i_)) (nI_add _ _) ?_
        refine lv_aload_n hx hb dX11_put_50 rfl (lv_at hl 0 rfl) ?_
        refine rg hf hk hw hinX11 0 rfl rfl 15 (by decide) w_0 rfl dX11_put_51 ?_
        refine lv_iload_n hx hb dX11_put_54 rfl (lv_at hl 1 rfl) ?_
        refine lv_tope (y := nI (ix sheet)) hs.1 ?_
        refine rij hf hk hw 1 rfl (j := ix sheet) (vp_in_nI (by omega) (by omega)) (nI_clamp (by omega)) dX11_put_55 ?_
        refine lv_if_ne (tgt := 64) hx hb dX11_put_56 (by decide) (fun c_4 => ?_) (fun c_4 => ?_)
        · refine lv_aload_n hx hb dX11_put_64 rfl (lv_at hl 0 rfl) ?_
          refine rg hf hk hw hinX11 0 rfl rfl 15 (by decide) w_0 rfl dX11_put_65 ?_
          refine lv_iload_n hx hb dX11_put_68 rfl (lv_at hl 1 rfl) ?_
          refine lv_tope (y := nI (ix sheet)) hs.1 ?_
          refine rij hf hk hw 1 rfl (j := ix sheet) (vp_in_nI (by omega) (by omega)) (nI_clamp (by omega)) dX11_put_69 ?_
          refine lv_iconst (v := 1) hx hb dX11_put_70 (by decide) ?_
          refine lv_icmp_ne (tgt := 79) hx hb dX11_put_71 (by decide) (fun c_5 => ?_) (fun c_5 => ?_)
          · refine lv_iload_n hx hb dX11_put_79 rfl (lv_at hl 3 rfl) ?_
            refine rsj hf hk hw 3 rfl (j := 40 * ix sheet + ix i_) (vp_in_nI (by omega) (by omega)) (nI_clamp (by omega)) dX11_put_80 (W' := [cob oh 11 [.ref os, .ref ok, .ref ol, .ref ord, .int isk, .ref odd, .ref otp, .int (nI tpd), .ref olt, .int oat, .int obg, .int otk, .int ovl, .ref orw, .int (nI rmn), .ref oso, .ref osz, .ref oit, .ref oho, .ref ohe, .ref otr, .int (nI tcd), .int own_, .int opt], cin g oso 4 srt, cin g osz 4 szs, cin g oit 160 (upd its (40 * ix sheet + ix i_) v)]) rfl (fun H locs hw => ?_)
            refine lv_iconst (v := 1) hx hb dX11_put_81 (by decide) ?_
            exact rE_i hf hr hlk hw ⟨congrArg some (by simp only [f_X11_put, if_neg c_1, if_pos c_2, if_neg c_3, if_neg c_4, if_neg c_5]), by simp only [f_X11_put_w1, if_neg c_1, if_pos c_2, if_neg c_3, if_neg c_4, if_neg c_5]⟩ (show ([oh, oso, osz, oit] : List Nat) = [oh, oso, osz, oit] from rfl) dX11_put_82
          · refine lv_iload_n hx hb dX11_put_74 rfl (lv_at hl 3 rfl) ?_
            refine lv_i2s hx hb dX11_put_75 rfl ?_
            refine lv_goto (tgt := 80) hx hb dX11_put_76 (by decide) ?_
            refine rsj hf hk hw 3 rfl (j := 40 * ix sheet + ix i_) (vp_in_nI (by omega) (by omega)) (nI_clamp (by omega)) dX11_put_80 (W' := [cob oh 11 [.ref os, .ref ok, .ref ol, .ref ord, .int isk, .ref odd, .ref otp, .int (nI tpd), .ref olt, .int oat, .int obg, .int otk, .int ovl, .ref orw, .int (nI rmn), .ref oso, .ref osz, .ref oit, .ref oho, .ref ohe, .ref otr, .int (nI tcd), .int own_, .int opt], cin g oso 4 srt, cin g osz 4 szs, cin g oit 160 (upd its (40 * ix sheet + ix i_) v.toInt16.toInt32)]) rfl (fun H locs hw => ?_)
            refine lv_iconst (v := 1) hx hb dX11_put_81 (by decide) ?_
            exact rE_i hf hr hlk hw ⟨congrArg some (by simp only [f_X11_put, if_neg c_1, if_pos c_2, if_neg c_3, if_neg c_4, if_pos c_5]), by simp only [f_X11_put_w1, if_neg c_1, if_pos c_2, if_neg c_3, if_neg c_4, if_pos c_5]⟩ (show ([oh, oso, osz, oit] : List Nat) = [oh, oso, osz, oit] from rfl) dX11_put_82
        · refine lv_iload_n hx hb dX11_put_59 rfl (lv_at hl 3 rfl) ?_
          refine lv_i2b hx hb dX11_put_60 rfl ?_
          refine lv_goto (tgt := 80) hx hb dX11_put_61 (by decide) ?_
          refine rsj hf hk hw 3 rfl (j := 40 * ix sheet + ix i_) (vp_in_nI (by omega) (by omega)) (nI_clamp (by omega)) dX11_put_80 (W' := [cob oh 11 [.ref os, .ref ok, .ref ol, .ref ord, .int isk, .ref odd, .ref otp, .int (nI tpd), .ref olt, .int oat, .int obg, .int otk, .int ovl, .ref orw, .int (nI rmn), .ref oso, .ref osz, .ref oit, .ref oho, .ref ohe, .ref otr, .int (nI tcd), .int own_, .int opt], cin g oso 4 srt, cin g osz 4 szs, cin g oit 160 (upd its (40 * ix sheet + ix i_) v.toInt8.toInt32)]) rfl (fun H locs hw => ?_)
          refine lv_iconst (v := 1) hx hb dX11_put_81 (by decide) ?_
          exact rE_i hf hr hlk hw ⟨congrArg some (by simp only [f_X11_put, if_neg c_1, if_pos c_2, if_neg c_3, if_pos c_4]), by simp only [f_X11_put_w1, if_neg c_1, if_pos c_2, if_neg c_3, if_pos c_4]⟩ (show ([oh, oso, osz, oit] : List Nat) = [oh, oso, osz, oit] from rfl) dX11_put_82
      · refine lv_bipush (v := (-12)) hx hb dX11_put_37 (by decide) ?_
        exact rE_i hf hr hlk hw ⟨congrArg some (by simp only [f_X11_put, if_neg c_1, if_pos c_2, if_pos c_3]), by simp only [f_X11_put_w1, if_neg c_1, if_pos c_2, if_pos c_3]⟩ (show ([oh, oso, osz, oit] : List Nat) = [oh, oso, osz, oit] from rfl) dX11_put_39
    · refine lv_bipush (v := (-11)) hx hb dX11_put_18 (by decide) ?_
      exact rE_i hf hr hlk hw ⟨congrArg some (by simp only [f_X11_put, if_neg c_1, if_neg c_2]), by simp only [f_X11_put_w1, if_neg c_1, if_neg c_2]⟩ (show ([oh, oso, osz, oit] : List Nat) = [oh, oso, osz, oit] from rfl) dX11_put_20
  · refine lv_iconst (v := (-1)) hx hb dX11_put_7 (by decide) ?_
    exact rE_i hf hr hlk hw ⟨congrArg some (by simp only [f_X11_put, if_pos c_1]), by simp only [f_X11_put_w1, if_pos c_1]⟩ (show ([oh, oso, osz, oit] : List Nat) = [oh, oso, osz, oit] from rfl) dX11_put_8
def f_X11_minds (cnt : Nat) (srt : Nat → Int32) (sheet : Int32) (i_ : Int32) (goer : Int32) (n : Int32) (isz : Nat) : Int32 := if (nO sheet 0 3) = 0 then (-1) else (if (f_X8_has cnt goer) = 0 then (-1) else (if (nO n 0 8) = 0 then (-1) else (if (nI (ix goer + ix n)) ≤ (nI cnt) then (if 0 ≤ (srt (ix sheet)) then (if (srt (ix sheet)) = 0 then (if (nO i_ 0 (nI isz)) = 0 then (-12) else (if (nI (ix n)) ≤ (nI (isz - ix i_)) then (nI (ix n)) else (-12))) else (-13)) else (-11)) else (-1))))
def f_X11_minds_w1 (cnt : Nat) (faiths : Nat → Int32) (srt : Nat → Int32) (its : Nat → Int32) (sheet : Int32) (i_ : Int32) (goer : Int32) (n : Int32) (isz : Nat) : Nat → Int32 := if (nO sheet 0 3) = 0 then faiths else (if (f_X8_has cnt goer) = 0 then faiths else (if (nO n 0 8) = 0 then faiths else (if (nI (ix goer + ix n)) ≤ (nI cnt) then (if 0 ≤ (srt (ix sheet)) then (if (srt (ix sheet)) = 0 then (if (nO i_ 0 (nI isz)) = 0 then faiths else (if (nI (ix n)) ≤ (nI (isz - ix i_)) then (mindF faiths (fun j => its (40 * ix sheet + j)) (ix goer) (ix i_) (ix n)) else faiths)) else faiths) else faiths) else faiths)))
abbrev rmX11_minds : Room := { frames := 2, cells := 0, slots := 0, locals := 43 }
set_option maxHeartbeats 4000000 in
set_option maxRecDepth 100000 in
theorem c_X11_minds (l : Launch) (g : GG) (oh : Nat) (os : Nat) (ok : Nat) (ol : Nat) (ord : Nat) (odd : Nat) (otp : Nat) (olt : Nat) (orw : Nat) (oso : Nat) (osz : Nat) (oit : Nat) (oho : Nat) (ohe : Nat) (otr : Nat) (stp : Nat) (laws : Nat → Int32) (z : Int32) (cnt : Nat) (fogs : Nat → Int32) (arms : Nat → Int32) (kinds : Nat → Int32) (faiths : Nat → Int32) (places : Nat → Int32) (moved : Nat → Int32) (isk : Int32) (tpd : Nat) (oat : Int32) (obg : Int32) (otk : Int32) (ovl : Int32) (rmn : Nat) (tcd : Nat) (own_ : Int32) (opt : Int32) (srt : Nat → Int32) (szs : Nat → Int32) (its : Nat → Int32) (sheet : Int32) (i_ : Int32) (goer : Int32) (n : Int32) (isz : Nat) (hc8 : cnt ≤ 8) (hz40 : isz ≤ 40) (hzz : szs (ix sheet) = nI isz) : mtR l g yX11_minds wsX11_minds rmX11_minds [.ref oh, .int sheet, .int i_, .int goer, .int n] [cob oh 11 [.ref os, .ref ok, .ref ol, .ref ord, .int isk, .ref odd, .ref otp, .int (nI tpd), .ref olt, .int oat, .int obg, .int otk, .int ovl, .ref orw, .int (nI rmn), .ref oso, .ref osz, .ref oit, .ref oho, .ref ohe, .ref otr, .int (nI tcd), .int own_, .int opt], cin g os 51 (mR stp laws z cnt fogs arms kinds faiths places moved), cin g oso 4 srt, cin g osz 4 szs, cin g oit 160 its] (fun rv W => rv = (some (.int (f_X11_minds cnt srt sheet i_ goer n isz))) ∧ W = [cob oh 11 [.ref os, .ref ok, .ref ol, .ref ord, .int isk, .ref odd, .ref otp, .int (nI tpd), .ref olt, .int oat, .int obg, .int otk, .int ovl, .ref orw, .int (nI rmn), .ref oso, .ref osz, .ref oit, .ref oho, .ref ohe, .ref otr, .int (nI tcd), .int own_, .int opt], cin g os 51 (mR stp laws z cnt fogs arms kinds (f_X11_minds_w1 cnt faiths srt its sheet i_ goer n isz) places moved), cin g oso 4 srt, cin g osz 4 szs, cin g oit 160 its]) := by
  refine mtR.of (cc := cX11_minds) (nL := 6) (ret := (some .int)) (own := RX11) (by decide +kernel) rfl rfl (Nat.le_of_ble_eq_true rfl) (fun p e s m below meth c hf hr hlk _ hk hst hw ls hl => ?_)
  have hx := hf.1
  have hb := hf.2.1
  have hts := hf.2.2.2.2
  have hl : lv_has ls 6 [(0, .ref oh), (1, .int sheet), (2, .int i_), (3, .int goer), (4, .int n)] := hl
  have hinX11 : ∀ w ∈ u_ws RX11 TX11 24, w ∈ wsX11_minds := fun w h => List.mem_cons_of_mem _ (List.mem_append_right _ h)
  have w_0 : Cond.fieldLink RX11 9 "LightManModel" "s" "[I" ∈ wsX11_minds := List.mem_of_getElem? (i := 1) rfl
  have w_1 : Cond.fieldLink RX11 35 "LightManModel" "sorts" "[I" ∈ wsX11_minds := List.mem_of_getElem? (i := 2) rfl
  have w_2 : Cond.fieldLink RX11 38 "LightManModel" "sizes" "[I" ∈ wsX11_minds := List.mem_of_getElem? (i := 3) rfl
  have w_3 : Cond.fieldLink RX11 41 "LightManModel" "items" "[I" ∈ wsX11_minds := List.mem_of_getElem? (i := 4) rfl
  refine lv_iload_n hx hb dX11_minds_0 rfl (lv_at hl 1 rfl) ?_
  refine mcS hf hk hst hw (c_X11_isSheet l g sheet) (va_cwS 1 hts gX11_minds_X11_isSheet rfl rfl rfl hdS_X11_isSheet ⟨Nat.le_of_ble_eq_true rfl, Nat.le_of_ble_eq_true rfl⟩) [] rfl rfl rfl hl.1 rfl (Nat.le_of_ble_eq_true rfl) dX11_minds_1 ⟨Nat.zero_le _, Nat.zero_le _⟩ (W' := [cob oh 11 [.ref os, .ref ok, .ref ol, .ref ord, .int isk, .ref odd, .ref otp, .int (nI tpd), .ref olt, .int oat, .int obg, .int otk, .int ovl, .ref orw, .int (nI rmn), .ref oso, .ref osz, .ref oit, .ref oho, .ref ohe, .ref otr, .int (nI tcd), .int own_, .int opt], cin g os 51 (mR stp laws z cnt fogs arms kinds faiths places moved), cin g oso 4 srt, cin g osz 4 szs, cin g oit 160 its]) rfl (fun H locs hw => ?_)
  refine lv_if_eq (tgt := 40) hx hb dX11_minds_4 (by decide) (fun c_1 => ?_) (fun c_1 => ?_)
  · refine lv_iconst (v := (-1)) hx hb dX11_minds_40 (by decide) ?_
    exact rE_i hf hr hlk hw ⟨congrArg some (by simp only [f_X11_minds, if_pos c_1]), by simp only [f_X11_minds_w1, if_pos c_1]⟩ (show ([oh, os, oso, osz, oit] : List Nat) = [oh, os, oso, osz, oit] from rfl) dX11_minds_41
  · have hs := out_n (N := 3) (by decide) (nO_1 c_1)
    have hs2 := hs.2
    refine lv_aload_n hx hb dX11_minds_7 rfl (lv_at hl 0 rfl) ?_
    refine lv_iload_n hx hb dX11_minds_8 rfl (lv_at hl 3 rfl) ?_
    refine mcV hf hk hst hw (c_X11_isGoer l g oh os ok ol ord odd otp olt orw oso osz oit oho ohe otr stp laws z cnt fogs arms kinds faiths places moved isk tpd oat obg otk ovl rmn tcd own_ opt goer (by omega)) (cwV 1 hts gX11_minds_X11_isGoer rfl rfl rfl hdV_X11_isGoer ⟨Nat.le_of_ble_eq_true rfl, Nat.le_of_ble_eq_true rfl⟩) [0, 1] rfl rfl 0 rfl rfl rfl hl.1 rfl (Nat.le_of_ble_eq_true rfl) dX11_minds_9 ⟨Nat.zero_le _, Nat.zero_le _⟩ (W' := [cob oh 11 [.ref os, .ref ok, .ref ol, .ref ord, .int isk, .ref odd, .ref otp, .int (nI tpd), .ref olt, .int oat, .int obg, .int otk, .int ovl, .ref orw, .int (nI rmn), .ref oso, .ref osz, .ref oit, .ref oho, .ref ohe, .ref otr, .int (nI tcd), .int own_, .int opt], cin g os 51 (mR stp laws z cnt fogs arms kinds faiths places moved), cin g oso 4 srt, cin g osz 4 szs, cin g oit 160 its]) rfl (fun H locs hw => ?_)
    refine lv_if_eq (tgt := 40) hx hb dX11_minds_12 (by decide) (fun c_2 => ?_) (fun c_2 => ?_)
    · refine lv_iconst (v := (-1)) hx hb dX11_minds_40 (by decide) ?_
      exact rE_i hf hr hlk hw ⟨congrArg some (by simp only [f_X11_minds, if_neg c_1, if_pos c_2]), by simp only [f_X11_minds_w1, if_neg c_1, if_pos c_2]⟩ (show ([oh, os, oso, osz, oit] : List Nat) = [oh, os, oso, osz, oit] from rfl) dX11_minds_41
    · have hg := has_n hc8 c_2
      have hg2 := hg.2
      refine lv_iload hx hb dX11_minds_15 (lv_at hl 4 rfl) ?_
      refine lv_iconst (v := 0) hx hb dX11_minds_17 (by decide) ?_
      refine lv_bipush (v := 8) hx hb dX11_minds_18 (by decide) ?_
      refine mcS hf hk hst hw (c_X11_in1 l g n 0 8) (va_cwS 3 hts gX11_minds_X11_in1 rfl rfl rfl hdS_X11_in1 ⟨Nat.le_of_ble_eq_true rfl, Nat.le_of_ble_eq_true rfl⟩) [] rfl rfl rfl hl.1 rfl (Nat.le_of_ble_eq_true rfl) dX11_minds_20 ⟨Nat.zero_le _, Nat.zero_le _⟩ (W' := [cob oh 11 [.ref os, .ref ok, .ref ol, .ref ord, .int isk, .ref odd, .ref otp, .int (nI tpd), .ref olt, .int oat, .int obg, .int otk, .int ovl, .ref orw, .int (nI rmn), .ref oso, .ref osz, .ref oit, .ref oho, .ref ohe, .ref otr, .int (nI tcd), .int own_, .int opt], cin g os 51 (mR stp laws z cnt fogs arms kinds faiths places moved), cin g oso 4 srt, cin g osz 4 szs, cin g oit 160 its]) rfl (fun H locs hw => ?_)
      refine lv_if_eq (tgt := 40) hx hb dX11_minds_23 (by decide) (fun c_3 => ?_) (fun c_3 => ?_)
      · refine lv_iconst (v := (-1)) hx hb dX11_minds_40 (by decide) ?_
        exact rE_i hf hr hlk hw ⟨congrArg some (by simp only [f_X11_minds, if_neg c_1, if_neg c_2, if_pos c_3]), by simp only [f_X11_minds_w1, if_neg c_1, if_neg c_2, if_pos c_3]⟩ (show ([oh, os, oso, osz, oit] : List Nat) = [oh, os, oso, osz, oit] from rfl) dX11_minds_41
      · have hn := out_n (N := 8) (by decide) (nO_1 c_3)
        have hn2 := hn.2
        refine lv_iload_n hx hb dX11_minds_26 rfl (lv_at hl 3 rfl) ?_
        refine lv_tope (y := nI (ix goer)) hg.1 ?_
        refine lv_iload hx hb dX11_minds_27 (lv_at hl 4 rfl) ?_
        refine lv_tope (y := nI (ix n)) hn.1 ?_
        refine lv_iadd hx hb dX11_minds_29 ?_
        refine lv_tope (y := nI (ix goer + ix n)) (nI_add _ _) ?_
        refine lv_aload_n hx hb dX11_minds_30 rfl (lv_at hl 0 rfl) ?_
        refine rg hf hk hw hinX11 0 rfl rfl 0 (by decide) w_0 rfl dX11_minds_31 ?_
        refine lv_bipush (v := 6) hx hb dX11_minds_34 (by decide) ?_
        refine rij hf hk hw 1 rfl (j := 6) (vp_in_nI (n := 6) (by omega) (by omega)) (rfl) dX11_minds_36 ?_
        refine lv_tope (y := nI cnt) (rfl) ?_
        refine lv_icmp_le (tgt := 42) hx hb dX11_minds_37 (by decide) (fun c_4 => ?_) (fun c_4 => ?_)
        · have hnc : ix goer + ix n ≤ cnt := (nI_leI (by omega) (by omega)).mp c_4
          refine lv_aload_n hx hb dX11_minds_42 rfl (lv_at hl 0 rfl) ?_
          refine rg hf hk hw hinX11 0 rfl rfl 15 (by decide) w_1 rfl dX11_minds_43 ?_
          refine lv_iload_n hx hb dX11_minds_46 rfl (lv_at hl 1 rfl) ?_
          refine lv_tope (y := nI (ix sheet)) hs.1 ?_
          refine rij hf hk hw 2 rfl (j := ix sheet) (vp_in_nI (by omega) (by omega)) (nI_clamp (by omega)) dX11_minds_47 ?_
          refine lv_if_ge (tgt := 54) hx hb dX11_minds_48 (by decide) (fun c_5 => ?_) (fun c_5 => ?_)
          · refine lv_aload_n hx hb dX11_minds_54 rfl (lv_at hl 0 rfl) ?_
            refine rg hf hk hw hinX11 0 rfl rfl 15 (by decide) w_1 rfl dX11_minds_55 ?_
            refine lv_iload_n hx hb dX11_minds_58 rfl (lv_at hl 1 rfl) ?_
            refine lv_tope (y := nI (ix sheet)) hs.1 ?_
            refine rij hf hk hw 2 rfl (j := ix sheet) (vp_in_nI (by omega) (by omega)) (nI_clamp (by omega)) dX11_minds_59 ?_
            refine lv_if_eq (tgt := 66) hx hb dX11_minds_60 (by decide) (fun c_6 => ?_) (fun c_6 => ?_)
            · refine lv_iload_n hx hb dX11_minds_66 rfl (lv_at hl 2 rfl) ?_
              refine lv_iconst (v := 0) hx hb dX11_minds_67 (by decide) ?_
              refine lv_aload_n hx hb dX11_minds_68 rfl (lv_at hl 0 rfl) ?_
              refine rg hf hk hw hinX11 0 rfl rfl 16 (by decide) w_2 rfl dX11_minds_69 ?_
              refine lv_iload_n hx hb dX11_minds_72 rfl (lv_at hl 1 rfl) ?_
              refine lv_tope (y := nI (ix sheet)) hs.1 ?_
              refine rij hf hk hw 3 rfl (j := ix sheet) (vp_in_nI (by omega) (by omega)) (nI_clamp (by omega)) dX11_minds_73 ?_
              refine lv_tope (y := nI isz) (hzz) ?_
              refine mcS hf hk hst hw (c_X11_in1 l g i_ 0 (nI isz)) (va_cwS 3 hts gX11_minds_X11_in1 rfl rfl rfl hdS_X11_in1 ⟨Nat.le_of_ble_eq_true rfl, Nat.le_of_ble_eq_true rfl⟩) [] rfl rfl rfl hl.1 rfl (Nat.le_of_ble_eq_true rfl) dX11_minds_74 ⟨Nat.zero_le _, Nat.zero_le _⟩ (W' := [cob oh 11 [.ref os, .ref ok, .ref ol, .ref ord, .int isk, .ref odd, .ref otp, .int (nI tpd), .ref olt, .int oat, .int obg, .int otk, .int ovl, .ref orw, .int (nI rmn), .ref oso, .ref osz, .ref oit, .ref oho, .ref ohe, .ref otr, .int (nI tcd), .int own_, .int opt], cin g os 51 (mR stp laws z cnt fogs arms kinds faiths places moved), cin g oso 4 srt, cin g osz 4 szs, cin g oit 160 its]) rfl (fun H locs hw => ?_)
              refine lv_if_eq (tgt := 93) hx hb dX11_minds_77 (by decide) (fun c_7 => ?_) (fun c_7 => ?_)
              · refine lv_bipush (v := (-12)) hx hb dX11_minds_93 (by decide) ?_
                exact rE_i hf hr hlk hw ⟨congrArg some (by simp only [f_X11_minds, if_neg c_1, if_neg c_2, if_neg c_3, if_pos c_4, if_pos c_5, if_pos c_6, if_pos c_7]), by simp only [f_X11_minds_w1, if_neg c_1, if_neg c_2, if_neg c_3, if_pos c_4, if_pos c_5, if_pos c_6, if_pos c_7]⟩ (show ([oh, os, oso, osz, oit] : List Nat) = [oh, os, oso, osz, oit] from rfl) dX11_minds_95
              · have hi_ := out_n (N := isz) (nI_toInt (by omega)) (nO_1 c_7)
                have hi2 := hi_.2
                refine lv_iload hx hb dX11_minds_80 (lv_at hl 4 rfl) ?_
                refine lv_tope (y := nI (ix n)) hn.1 ?_
                refine lv_aload_n hx hb dX11_minds_82 rfl (lv_at hl 0 rfl) ?_
                refine rg hf hk hw hinX11 0 rfl rfl 16 (by decide) w_2 rfl dX11_minds_83 ?_
                refine lv_iload_n hx hb dX11_minds_86 rfl (lv_at hl 1 rfl) ?_
                refine lv_tope (y := nI (ix sheet)) hs.1 ?_
                refine rij hf hk hw 3 rfl (j := ix sheet) (vp_in_nI (by omega) (by omega)) (nI_clamp (by omega)) dX11_minds_87 ?_
                refine lv_tope (y := nI isz) (hzz) ?_
                refine lv_iload_n hx hb dX11_minds_88 rfl (lv_at hl 2 rfl) ?_
                refine lv_tope (y := nI (ix i_)) hi_.1 ?_
                refine lv_isub hx hb dX11_minds_89 ?_
                refine lv_tope (y := nI (isz - ix i_)) (pk_sub hi2) ?_
                refine lv_icmp_le (tgt := 96) hx hb dX11_minds_90 (by decide) (fun c_8 => ?_) (fun c_8 => ?_)
                · have hni : ix n ≤ isz - ix i_ := (nI_leI (by omega) (by omega)).mp c_8
                  refine lv_iconst (v := 0) hx hb dX11_minds_96 (by decide) ?_
                  refine lv_istore (lv' := [(5, .int 0), (0, .ref oh), (1, .int sheet), (2, .int i_), (3, .int goer), (4, .int n)]) hx hb dX11_minds_97 hl (by decide) rfl (fun ls hl => ?_)
                  have lp_99_8 : ∀ (fu k : Nat), k ≤ (ix n) → (ix n) + 1 ≤ k + fu → ∀ (H : Heap) (locs : List Loc), hv g (va_I [cob oh 11 [.ref os, .ref ok, .ref ol, .ref ord, .int isk, .ref odd, .ref otp, .int (nI tpd), .ref olt, .int oat, .int obg, .int otk, .int ovl, .ref orw, .int (nI rmn), .ref oso, .ref osz, .ref oit, .ref oho, .ref ohe, .ref otr, .int (nI tcd), .int own_, .int opt], cin g os 51 (mR stp laws z cnt fogs arms kinds faiths places moved), cin g oso 4 srt, cin g osz 4 szs, cin g oit 160 its]) s H locs [cob oh 11 [.ref os, .ref ok, .ref ol, .ref ord, .int isk, .ref odd, .ref otp, .int (nI tpd), .ref olt, .int oat, .int obg, .int otk, .int ovl, .ref orw, .int (nI rmn), .ref oso, .ref osz, .ref oit, .ref oho, .ref ohe, .ref otr, .int (nI tcd), .int own_, .int opt], cin g os 51 (mR stp laws z cnt fogs arms kinds (mindF faiths (fun j => its (40 * ix sheet + j)) (ix goer) (ix i_) k) places moved), cin g oso 4 srt, cin g osz 4 szs, cin g oit 160 its] → ∀ ls : Array Slot, lv_has ls 6 [(5, .int (nI k)), (0, .ref oh), (1, .int sheet), (2, .int i_), (3, .int goer), (4, .int n)] → W p l e rmX11_minds s m ([.ref oh, .int sheet, .int i_, .int goer, .int n] : List Value).toArray below meth c H locs 0 0 (MQ below (mtS g [cob oh 11 [.ref os, .ref ok, .ref ol, .ref ord, .int isk, .ref odd, .ref otp, .int (nI tpd), .ref olt, .int oat, .int obg, .int otk, .int ovl, .ref orw, .int (nI rmn), .ref oso, .ref osz, .ref oit, .ref oho, .ref ohe, .ref otr, .int (nI tcd), .int own_, .int opt], cin g os 51 (mR stp laws z cnt fogs arms kinds faiths places moved), cin g oso 4 srt, cin g osz 4 szs, cin g oit 160 its] (fun rv W => rv = (some (.int (f_X11_minds cnt srt sheet i_ goer n isz))) ∧ W = [cob oh 11 [.ref os, .ref ok, .ref ol, .ref ord, .int isk, .ref odd, .ref otp, .int (nI tpd), .ref olt, .int oat, .int obg, .int otk, .int ovl, .ref orw, .int (nI rmn), .ref oso, .ref osz, .ref oit, .ref oho, .ref ohe, .ref otr, .int (nI tcd), .int own_, .int opt], cin g os 51 (mR stp laws z cnt fogs arms kinds (f_X11_minds_w1 cnt faiths srt its sheet i_ goer n isz) places moved), cin g oso 4 srt, cin g osz 4 szs, cin g oit 160 its])) ([.ref oh, .int sheet, .int i_, .int goer, .int n] : List Value).toArray s 0 0 (va_I [cob oh 11 [.ref os, .ref ok, .ref ol, .ref ord, .int isk, .ref odd, .ref otp, .int (nI tpd), .ref olt, .int oat, .int obg, .int otk, .int ovl, .ref orw, .int (nI rmn), .ref oso, .ref osz, .ref oit, .ref oho, .ref ohe, .ref otr, .int (nI tcd), .int own_, .int opt], cin g os 51 (mR stp laws z cnt fogs arms kinds faiths places moved), cin g oso 4 srt, cin g osz 4 szs, cin g oit 160 its])) (F0 m 99 ls []) := by
                    intro fu
                    induction fu with
                    | zero =>
                      intro k h1 h2
                      exact absurd h2 (by omega)
                    | succ fu ih_99 =>
                      intro k hk1_99 hk2_99 H locs hw ls hl
                      refine lv_iload hx hb dX11_minds_99 (lv_at hl 0 rfl) ?_
                      refine lv_iload hx hb dX11_minds_101 (lv_at hl 5 rfl) ?_
                      refine lv_tope (y := nI (ix n)) hn.1 ?_
                      refine lv_icmp_ge (tgt := 140) hx hb dX11_minds_103 (by decide) (fun c_10 => ?_) (fun c_10 => ?_)
                      · have hkE : k = ix n := Nat.le_antisymm hk1_99 ((nI_leI (by omega) (by omega)).mp c_10)
                        subst hkE
                        refine lv_iload hx hb dX11_minds_140 (lv_at hl 5 rfl) ?_
                        refine lv_tope (y := nI (ix n)) hn.1 ?_
                        exact rE_i hf hr hlk hw ⟨congrArg some (by simp only [f_X11_minds, if_neg c_1, if_neg c_2, if_neg c_3, if_pos c_4, if_pos c_5, if_pos c_6, if_neg c_7, if_pos c_8, if_pos c_10]), by simp only [f_X11_minds_w1, if_neg c_1, if_neg c_2, if_neg c_3, if_pos c_4, if_pos c_5, if_pos c_6, if_neg c_7, if_pos c_8, if_pos c_10]⟩ (show ([oh, os, oso, osz, oit] : List Nat) = [oh, os, oso, osz, oit] from rfl) dX11_minds_142
                      · have hkE : k < ix n := Nat.not_le.mp (fun h => c_10 ((nI_leI (by omega) (by omega)).mpr h))
                        refine lv_aload_n hx hb dX11_minds_106 rfl (lv_at hl 1 rfl) ?_
                        refine lv_iload_n hx hb dX11_minds_107 rfl (lv_at hl 4 rfl) ?_
                        refine lv_tope (y := nI (ix goer)) hg.1 ?_
                        refine lv_iload hx hb dX11_minds_108 (lv_at hl 0 rfl) ?_
                        refine lv_iadd hx hb dX11_minds_110 ?_
                        refine lv_tope (y := nI (ix goer + k)) (nI_add _ _) ?_
                        refine lv_iconst (v := 1) hx hb dX11_minds_111 (by decide) ?_
                        refine lv_aload_n hx hb dX11_minds_112 rfl (lv_at hl 1 rfl) ?_
                        refine rg hf hk hw hinX11 0 rfl rfl 17 (by decide) w_3 rfl dX11_minds_113 ?_
                        refine lv_bipush (v := 40) hx hb dX11_minds_116 (by decide) ?_
                        refine lv_iload_n hx hb dX11_minds_118 rfl (lv_at hl 2 rfl) ?_
                        refine lv_tope (y := nI (ix sheet)) hs.1 ?_
                        refine lv_imul hx hb dX11_minds_119 ?_
                        refine lv_tope (y := nI (40 * ix sheet)) (pk_mul 40 _) ?_
                        refine lv_iload_n hx hb dX11_minds_120 rfl (lv_at hl 3 rfl) ?_
                        refine lv_tope (y := nI (ix i_)) hi_.1 ?_
                        refine lv_iadd hx hb dX11_minds_121 ?_
                        refine lv_tope (y := nI (40 * ix sheet + ix i_)) (nI_add _ _) ?_
                        refine lv_iload hx hb dX11_minds_122 (lv_at hl 0 rfl) ?_
                        refine lv_iadd hx hb dX11_minds_124 ?_
                        refine lv_tope (y := nI (40 * ix sheet + (ix i_ + k))) (by rw [nI_add, Nat.add_assoc]) ?_
                        refine rij hf hk hw 4 rfl (j := 40 * ix sheet + (ix i_ + k)) (vp_in_nI (by omega) (by omega)) (nI_clamp (by omega)) dX11_minds_125 ?_
                        refine lv_bipush (v := 99) hx hb dX11_minds_126 (by decide) ?_
                        refine mcS hf hk hst hw (c_X11_held l g (its (40 * ix sheet + (ix i_ + k))) 99) (va_cwS 2 hts gX11_minds_X11_held rfl rfl rfl hdS_X11_held ⟨Nat.le_of_ble_eq_true rfl, Nat.le_of_ble_eq_true rfl⟩) [] rfl rfl rfl hl.1 rfl (Nat.le_of_ble_eq_true rfl) dX11_minds_128 ⟨Nat.zero_le _, Nat.zero_le _⟩ (W' := [cob oh 11 [.ref os, .ref ok, .ref ol, .ref ord, .int isk, .ref odd, .ref otp, .int (nI tpd), .ref olt, .int oat, .int obg, .int otk, .int ovl, .ref orw, .int (nI rmn), .ref oso, .ref osz, .ref oit, .ref oho, .ref ohe, .ref otr, .int (nI tcd), .int own_, .int opt], cin g os 51 (mR stp laws z cnt fogs arms kinds (mindF faiths (fun j => its (40 * ix sheet + j)) (ix goer) (ix i_) k) places moved), cin g oso 4 srt, cin g osz 4 szs, cin g oit 160 its]) rfl (fun H locs hw => ?_)
                        refine lv_tope (y := hF ((fun j => its (40 * ix sheet + j)) (ix i_ + k))) (hd_hF _) ?_
                        refine mcV hf hk hst hw (c_X11_puts1 l g oh os ok ol ord odd otp olt orw oso osz oit oho ohe otr stp laws z cnt fogs arms kinds (mindF faiths (fun j => its (40 * ix sheet + j)) (ix goer) (ix i_) k) places moved isk tpd oat obg otk ovl rmn tcd own_ opt (ix goer + k) (hF ((fun j => its (40 * ix sheet + j)) (ix i_ + k))) (by omega)) (cwV 3 hts gX11_minds_X11_puts rfl rfl rfl hdV_X11_puts ⟨Nat.le_of_ble_eq_true rfl, Nat.le_of_ble_eq_true rfl⟩) [0, 1] rfl rfl 0 rfl rfl rfl hl.1 rfl (Nat.le_of_ble_eq_true rfl) dX11_minds_131 ⟨Nat.zero_le _, Nat.zero_le _⟩ (W' := [cob oh 11 [.ref os, .ref ok, .ref ol, .ref ord, .int isk, .ref odd, .ref otp, .int (nI tpd), .ref olt, .int oat, .int obg, .int otk, .int ovl, .ref orw, .int (nI rmn), .ref oso, .ref osz, .ref oit, .ref oho, .ref ohe, .ref otr, .int (nI tcd), .int own_, .int opt], cin g os 51 (mR stp laws z cnt fogs arms kinds (upd (mindF faiths (fun j => its (40 * ix sheet + j)) (ix goer) (ix i_) k) (ix goer + k) (hF ((fun j => its (40 * ix sheet + j)) (ix i_ + k)))) places moved), cin g oso 4 srt, cin g osz 4 szs, cin g oit 160 its]) rfl (fun H locs hw => ?_)
                        refine lv_iinc (v := nI (k + 1)) (lv' := [(5, .int (nI (k + 1))), (0, .ref oh), (1, .int sheet), (2, .int i_), (3, .int goer), (4, .int n)]) hx hb dX11_minds_134 hl (k := 0) rfl (nI_1 _) (by decide) rfl (fun ls hl => ?_)
                        refine lv_goto (tgt := 99) hx hb dX11_minds_137 (by decide) ?_
                        have e_1 : mR stp laws z cnt fogs arms kinds (upd (mindF faiths (fun j => its (40 * ix sheet + j)) (ix goer) (ix i_) k) (ix goer + k) (hF ((fun j => its (40 * ix sheet + j)) (ix i_ + k)))) places moved = mR stp laws z cnt fogs arms kinds (mindF faiths (fun j => its (40 * ix sheet + j)) (ix goer) (ix i_) (k + 1)) places moved := rfl
                        rw [e_1] at hw
                        exact ih_99 (k + 1) (by omega) (by omega) _ _ hw _ (lv_sub hl [0, 1, 2, 3, 4, 5] rfl)
                  exact lp_99_8 ((ix n) + 1) 0 (by omega) (by omega) _ _ hw _ (lv_sub hl [0, 1, 2, 3, 4, 5] rfl)
                · refine lv_bipush (v := (-12)) hx hb dX11_minds_93 (by decide) ?_
                  exact rE_i hf hr hlk hw ⟨congrArg some (by simp only [f_X11_minds, if_neg c_1, if_neg c_2, if_neg c_3, if_pos c_4, if_pos c_5, if_pos c_6, if_neg c_7, if_neg c_8]), by simp only [f_X11_minds_w1, if_neg c_1, if_neg c_2, if_neg c_3, if_pos c_4, if_pos c_5, if_pos c_6, if_neg c_7, if_neg c_8]⟩ (show ([oh, os, oso, osz, oit] : List Nat) = [oh, os, oso, osz, oit] from rfl) dX11_minds_95
            · refine lv_bipush (v := (-13)) hx hb dX11_minds_63 (by decide) ?_
              exact rE_i hf hr hlk hw ⟨congrArg some (by simp only [f_X11_minds, if_neg c_1, if_neg c_2, if_neg c_3, if_pos c_4, if_pos c_5, if_neg c_6]), by simp only [f_X11_minds_w1, if_neg c_1, if_neg c_2, if_neg c_3, if_pos c_4, if_pos c_5, if_neg c_6]⟩ (show ([oh, os, oso, osz, oit] : List Nat) = [oh, os, oso, osz, oit] from rfl) dX11_minds_65
          · refine lv_bipush (v := (-11)) hx hb dX11_minds_51 (by decide) ?_
            exact rE_i hf hr hlk hw ⟨congrArg some (by simp only [f_X11_minds, if_neg c_1, if_neg c_2, if_neg c_3, if_pos c_4, if_neg c_5]), by simp only [f_X11_minds_w1, if_neg c_1, if_neg c_2, if_neg c_3, if_pos c_4, if_neg c_5]⟩ (show ([oh, os, oso, osz, oit] : List Nat) = [oh, os, oso, osz, oit] from rfl) dX11_minds_53
        · refine lv_iconst (v := (-1)) hx hb dX11_minds_40 (by decide) ?_
          exact rE_i hf hr hlk hw ⟨congrArg some (by simp only [f_X11_minds, if_neg c_1, if_neg c_2, if_neg c_3, if_neg c_4]), by simp only [f_X11_minds_w1, if_neg c_1, if_neg c_2, if_neg c_3, if_neg c_4]⟩ (show ([oh, os, oso, osz, oit] : List Nat) = [oh, os, oso, osz, oit] from rfl) dX11_minds_41
def f_X11_sheet (sheet : Int32) (sort : Int32) (n : Int32) : Int32 := if (nO sheet 0 3) = 0 then (-1) else (if (nO sort (-1) 3) = 0 then (-1) else (if sort < 0 then 1 else (if n ≤ 40 then (if 0 ≤ n then 1 else (-14)) else (-1))))
def f_X11_sheet_w1 (srt : Nat → Int32) (sheet : Int32) (sort : Int32) (n : Int32) : Nat → Int32 := if (nO sheet 0 3) = 0 then srt else (if (nO sort (-1) 3) = 0 then srt else (if sort < 0 then (upd srt (ix sheet) sort) else (if n ≤ 40 then (if 0 ≤ n then (upd srt (ix sheet) sort) else srt) else srt)))
def f_X11_sheet_w2 (szs : Nat → Int32) (sheet : Int32) (sort : Int32) (n : Int32) : Nat → Int32 := if (nO sheet 0 3) = 0 then szs else (if (nO sort (-1) 3) = 0 then szs else (if sort < 0 then (if 0 ≤ sort then (upd szs (ix sheet) n) else (upd szs (ix sheet) 0)) else (if n ≤ 40 then (if 0 ≤ n then (if 0 ≤ sort then (upd szs (ix sheet) n) else (upd szs (ix sheet) 0)) else szs) else szs)))
def f_X11_sheet_w3 (its : Nat → Int32) (sheet : Int32) (sort : Int32) (n : Int32) : Nat → Int32 := if (nO sheet 0 3) = 0 then its else (if (nO sort (-1) 3) = 0 then its else (if sort < 0 then (itZ its (40 * ix sheet) 40) else (if n ≤ 40 then (if 0 ≤ n then (itZ its (40 * ix sheet) 40) else its) else its)))
abbrev rmX11_sheet : Room := { frames := 2, cells := 0, slots := 0, locals := 42 }
set_option maxHeartbeats 4000000 in
set_option maxRecDepth 100000 in
theorem c_X11_sheet (l : Launch) (g : GG) (oh : Nat) (os : Nat) (ok : Nat) (ol : Nat) (ord : Nat) (odd : Nat) (otp : Nat) (olt : Nat) (orw : Nat) (oso : Nat) (osz : Nat) (oit : Nat) (oho : Nat) (ohe : Nat) (otr : Nat) (isk : Int32) (tpd : Nat) (oat : Int32) (obg : Int32) (otk : Int32) (ovl : Int32) (rmn : Nat) (tcd : Nat) (own_ : Int32) (opt : Int32) (srt : Nat → Int32) (szs : Nat → Int32) (its : Nat → Int32) (sheet : Int32) (sort : Int32) (n : Int32) : mtR l g yX11_sheet wsX11_sheet rmX11_sheet [.ref oh, .int sheet, .int sort, .int n] [cob oh 11 [.ref os, .ref ok, .ref ol, .ref ord, .int isk, .ref odd, .ref otp, .int (nI tpd), .ref olt, .int oat, .int obg, .int otk, .int ovl, .ref orw, .int (nI rmn), .ref oso, .ref osz, .ref oit, .ref oho, .ref ohe, .ref otr, .int (nI tcd), .int own_, .int opt], cin g oso 4 srt, cin g osz 4 szs, cin g oit 160 its] (fun rv W => rv = (some (.int (f_X11_sheet sheet sort n))) ∧ W = [cob oh 11 [.ref os, .ref ok, .ref ol, .ref ord, .int isk, .ref odd, .ref otp, .int (nI tpd), .ref olt, .int oat, .int obg, .int otk, .int ovl, .ref orw, .int (nI rmn), .ref oso, .ref osz, .ref oit, .ref oho, .ref ohe, .ref otr, .int (nI tcd), .int own_, .int opt], cin g oso 4 (f_X11_sheet_w1 srt sheet sort n), cin g osz 4 (f_X11_sheet_w2 szs sheet sort n), cin g oit 160 (f_X11_sheet_w3 its sheet sort n)]) := by
  refine mtR.of (cc := cX11_sheet) (nL := 5) (ret := (some .int)) (own := RX11) (by decide +kernel) rfl rfl (Nat.le_of_ble_eq_true rfl) (fun p e s m below meth c hf hr hlk _ hk hst hw ls hl => ?_)
  have hx := hf.1
  have hb := hf.2.1
  have hts := hf.2.2.2.2
  have hl : lv_has ls 5 [(0, .ref oh), (1, .int sheet), (2, .int sort), (3, .int n)] := hl
  have hinX11 : ∀ w ∈ u_ws RX11 TX11 24, w ∈ wsX11_sheet := fun w h => List.mem_cons_of_mem _ (List.mem_append_right _ h)
  have w_0 : Cond.fieldLink RX11 35 "LightManModel" "sorts" "[I" ∈ wsX11_sheet := List.mem_of_getElem? (i := 1) rfl
  have w_1 : Cond.fieldLink RX11 38 "LightManModel" "sizes" "[I" ∈ wsX11_sheet := List.mem_of_getElem? (i := 2) rfl
  have w_2 : Cond.fieldLink RX11 41 "LightManModel" "items" "[I" ∈ wsX11_sheet := List.mem_of_getElem? (i := 3) rfl
  refine lv_iload_n hx hb dX11_sheet_0 rfl (lv_at hl 1 rfl) ?_
  refine mcS hf hk hst hw (c_X11_isSheet l g sheet) (va_cwS 1 hts gX11_sheet_X11_isSheet rfl rfl rfl hdS_X11_isSheet ⟨Nat.le_of_ble_eq_true rfl, Nat.le_of_ble_eq_true rfl⟩) [] rfl rfl rfl hl.1 rfl (Nat.le_of_ble_eq_true rfl) dX11_sheet_1 ⟨Nat.zero_le _, Nat.zero_le _⟩ (W' := [cob oh 11 [.ref os, .ref ok, .ref ol, .ref ord, .int isk, .ref odd, .ref otp, .int (nI tpd), .ref olt, .int oat, .int obg, .int otk, .int ovl, .ref orw, .int (nI rmn), .ref oso, .ref osz, .ref oit, .ref oho, .ref ohe, .ref otr, .int (nI tcd), .int own_, .int opt], cin g oso 4 srt, cin g osz 4 szs, cin g oit 160 its]) rfl (fun H locs hw => ?_)
  refine lv_if_eq (tgt := 26) hx hb dX11_sheet_4 (by decide) (fun c_1 => ?_) (fun c_1 => ?_)
  · refine lv_iconst (v := (-1)) hx hb dX11_sheet_26 (by decide) ?_
    exact rE_i hf hr hlk hw ⟨congrArg some (by simp only [f_X11_sheet, if_pos c_1]), by simp only [f_X11_sheet_w1, f_X11_sheet_w2, f_X11_sheet_w3, if_pos c_1]⟩ (show ([oh, oso, osz, oit] : List Nat) = [oh, oso, osz, oit] from rfl) dX11_sheet_27
  · have hs := out_n (N := 3) (by decide) (nO_1 c_1)
    have hs2 := hs.2
    refine lv_iload_n hx hb dX11_sheet_7 rfl (lv_at hl 2 rfl) ?_
    refine lv_iconst (v := (-1)) hx hb dX11_sheet_8 (by decide) ?_
    refine lv_iconst (v := 3) hx hb dX11_sheet_9 (by decide) ?_
    refine mcS hf hk hst hw (c_X11_in1 l g sort (-1) 3) (va_cwS 3 hts gX11_sheet_X11_in1 rfl rfl rfl hdS_X11_in1 ⟨Nat.le_of_ble_eq_true rfl, Nat.le_of_ble_eq_true rfl⟩) [] rfl rfl rfl hl.1 rfl (Nat.le_of_ble_eq_true rfl) dX11_sheet_10 ⟨Nat.zero_le _, Nat.zero_le _⟩ (W' := [cob oh 11 [.ref os, .ref ok, .ref ol, .ref ord, .int isk, .ref odd, .ref otp, .int (nI tpd), .ref olt, .int oat, .int obg, .int otk, .int ovl, .ref orw, .int (nI rmn), .ref oso, .ref osz, .ref oit, .ref oho, .ref ohe, .ref otr, .int (nI tcd), .int own_, .int opt], cin g oso 4 srt, cin g osz 4 szs, cin g oit 160 its]) rfl (fun H locs hw => ?_)
    refine lv_if_eq (tgt := 26) hx hb dX11_sheet_13 (by decide) (fun c_2 => ?_) (fun c_2 => ?_)
    · refine lv_iconst (v := (-1)) hx hb dX11_sheet_26 (by decide) ?_
      exact rE_i hf hr hlk hw ⟨congrArg some (by simp only [f_X11_sheet, if_neg c_1, if_pos c_2]), by simp only [f_X11_sheet_w1, f_X11_sheet_w2, f_X11_sheet_w3, if_neg c_1, if_pos c_2]⟩ (show ([oh, oso, osz, oit] : List Nat) = [oh, oso, osz, oit] from rfl) dX11_sheet_27
    · refine lv_iload_n hx hb dX11_sheet_16 rfl (lv_at hl 2 rfl) ?_
      refine lv_if_lt (tgt := 28) hx hb dX11_sheet_17 (by decide) (fun c_3 => ?_) (fun c_3 => ?_)
      · refine lv_iload_n hx hb dX11_sheet_28 rfl (lv_at hl 2 rfl) ?_
        refine lv_if_lt (tgt := 39) hx hb dX11_sheet_29 (by decide) (fun _ => ?_) (fun q => absurd (c_3) q)
        refine lv_aload_n hx hb dX11_sheet_39 rfl (lv_at hl 0 rfl) ?_
        refine rg hf hk hw hinX11 0 rfl rfl 15 (by decide) w_0 rfl dX11_sheet_40 ?_
        refine lv_iload_n hx hb dX11_sheet_43 rfl (lv_at hl 1 rfl) ?_
        refine lv_tope (y := nI (ix sheet)) hs.1 ?_
        refine lv_iload_n hx hb dX11_sheet_44 rfl (lv_at hl 2 rfl) ?_
        refine rsj hf hk hw 1 rfl (j := ix sheet) (vp_in_nI (by omega) (by omega)) (nI_clamp (by omega)) dX11_sheet_45 (W' := [cob oh 11 [.ref os, .ref ok, .ref ol, .ref ord, .int isk, .ref odd, .ref otp, .int (nI tpd), .ref olt, .int oat, .int obg, .int otk, .int ovl, .ref orw, .int (nI rmn), .ref oso, .ref osz, .ref oit, .ref oho, .ref ohe, .ref otr, .int (nI tcd), .int own_, .int opt], cin g oso 4 (upd srt (ix sheet) sort), cin g osz 4 szs, cin g oit 160 its]) rfl (fun H locs hw => ?_)
        refine lv_aload_n hx hb dX11_sheet_46 rfl (lv_at hl 0 rfl) ?_
        refine rg hf hk hw hinX11 0 rfl rfl 16 (by decide) w_1 rfl dX11_sheet_47 ?_
        refine lv_iload_n hx hb dX11_sheet_50 rfl (lv_at hl 1 rfl) ?_
        refine lv_tope (y := nI (ix sheet)) hs.1 ?_
        refine lv_iload_n hx hb dX11_sheet_51 rfl (lv_at hl 2 rfl) ?_
        refine lv_if_ge (tgt := 59) hx hb dX11_sheet_52 (by decide) (fun c_4 => ?_) (fun c_4 => ?_)
        · refine lv_iload_n hx hb dX11_sheet_59 rfl (lv_at hl 3 rfl) ?_
          refine rsj hf hk hw 2 rfl (j := ix sheet) (vp_in_nI (by omega) (by omega)) (nI_clamp (by omega)) dX11_sheet_60 (W' := [cob oh 11 [.ref os, .ref ok, .ref ol, .ref ord, .int isk, .ref odd, .ref otp, .int (nI tpd), .ref olt, .int oat, .int obg, .int otk, .int ovl, .ref orw, .int (nI rmn), .ref oso, .ref osz, .ref oit, .ref oho, .ref ohe, .ref otr, .int (nI tcd), .int own_, .int opt], cin g oso 4 (upd srt (ix sheet) sort), cin g osz 4 (upd szs (ix sheet) n), cin g oit 160 its]) rfl (fun H locs hw => ?_)
          refine lv_iconst (v := 0) hx hb dX11_sheet_61 (by decide) ?_
          refine lv_istore (lv' := [(4, .int 0), (0, .ref oh), (1, .int sheet), (2, .int sort), (3, .int n)]) hx hb dX11_sheet_62 hl (by decide) rfl (fun ls hl => ?_)
          have lp_64_4 : ∀ (fu k : Nat) (vz : Nat → Int32), k ≤ 40 → 40 + 1 ≤ k + fu → (vz = itZ its (40 * ix sheet) k) → ∀ (H : Heap) (locs : List Loc), hv g (va_I [cob oh 11 [.ref os, .ref ok, .ref ol, .ref ord, .int isk, .ref odd, .ref otp, .int (nI tpd), .ref olt, .int oat, .int obg, .int otk, .int ovl, .ref orw, .int (nI rmn), .ref oso, .ref osz, .ref oit, .ref oho, .ref ohe, .ref otr, .int (nI tcd), .int own_, .int opt], cin g oso 4 srt, cin g osz 4 szs, cin g oit 160 its]) s H locs [cob oh 11 [.ref os, .ref ok, .ref ol, .ref ord, .int isk, .ref odd, .ref otp, .int (nI tpd), .ref olt, .int oat, .int obg, .int otk, .int ovl, .ref orw, .int (nI rmn), .ref oso, .ref osz, .ref oit, .ref oho, .ref ohe, .ref otr, .int (nI tcd), .int own_, .int opt], cin g oso 4 (upd srt (ix sheet) sort), cin g osz 4 (upd szs (ix sheet) n), cin g oit 160 vz] → ∀ ls : Array Slot, lv_has ls 5 [(4, .int (nI k)), (0, .ref oh), (1, .int sheet), (2, .int sort), (3, .int n)] → W p l e rmX11_sheet s m ([.ref oh, .int sheet, .int sort, .int n] : List Value).toArray below meth c H locs 0 0 (MQ below (mtS g [cob oh 11 [.ref os, .ref ok, .ref ol, .ref ord, .int isk, .ref odd, .ref otp, .int (nI tpd), .ref olt, .int oat, .int obg, .int otk, .int ovl, .ref orw, .int (nI rmn), .ref oso, .ref osz, .ref oit, .ref oho, .ref ohe, .ref otr, .int (nI tcd), .int own_, .int opt], cin g oso 4 srt, cin g osz 4 szs, cin g oit 160 its] (fun rv W => rv = (some (.int (f_X11_sheet sheet sort n))) ∧ W = [cob oh 11 [.ref os, .ref ok, .ref ol, .ref ord, .int isk, .ref odd, .ref otp, .int (nI tpd), .ref olt, .int oat, .int obg, .int otk, .int ovl, .ref orw, .int (nI rmn), .ref oso, .ref osz, .ref oit, .ref oho, .ref ohe, .ref otr, .int (nI tcd), .int own_, .int opt], cin g oso 4 (f_X11_sheet_w1 srt sheet sort n), cin g osz 4 (f_X11_sheet_w2 szs sheet sort n), cin g oit 160 (f_X11_sheet_w3 its sheet sort n)])) ([.ref oh, .int sheet, .int sort, .int n] : List Value).toArray s 0 0 (va_I [cob oh 11 [.ref os, .ref ok, .ref ol, .ref ord, .int isk, .ref odd, .ref otp, .int (nI tpd), .ref olt, .int oat, .int obg, .int otk, .int ovl, .ref orw, .int (nI rmn), .ref oso, .ref osz, .ref oit, .ref oho, .ref ohe, .ref otr, .int (nI tcd), .int own_, .int opt], cin g oso 4 srt, cin g osz 4 szs, cin g oit 160 its])) (F0 m 64 ls []) := by
            intro fu
            induction fu with
            | zero =>
              intro k vz h1 h2
              exact absurd h2 (by omega)
            | succ fu ih_64 =>
              intro k vz hk1_64 hk2_64 ez H locs hw ls hl
              refine lv_iload hx hb dX11_sheet_64 (lv_at hl 0 rfl) ?_
              refine lv_bipush (v := 40) hx hb dX11_sheet_66 (by decide) ?_
              refine lv_icmp_ge (tgt := 90) hx hb dX11_sheet_68 (by decide) (fun c_6 => ?_) (fun c_6 => ?_)
              · have hkE : k = 40 := Nat.le_antisymm hk1_64 ((nI_leI (a := 40) (by omega) (by omega)).mp c_6)
                rw [hkE] at ez
                rw [ez] at hw
                refine lv_iconst (v := 1) hx hb dX11_sheet_90 (by decide) ?_
                exact rE_i hf hr hlk hw ⟨congrArg some (by simp only [f_X11_sheet, if_neg c_1, if_neg c_2, if_pos c_3, if_pos c_4, if_pos c_6]), by simp only [f_X11_sheet_w1, f_X11_sheet_w2, f_X11_sheet_w3, if_neg c_1, if_neg c_2, if_pos c_3, if_pos c_4, if_pos c_6]⟩ (show ([oh, oso, osz, oit] : List Nat) = [oh, oso, osz, oit] from rfl) dX11_sheet_91
              · have hkE : k < 40 := Nat.not_le.mp (fun h => c_6 ((nI_leI (a := 40) (by omega) (by omega)).mpr h))
                refine lv_aload_n hx hb dX11_sheet_71 rfl (lv_at hl 1 rfl) ?_
                refine rg hf hk hw hinX11 0 rfl rfl 17 (by decide) w_2 rfl dX11_sheet_72 ?_
                refine lv_bipush (v := 40) hx hb dX11_sheet_75 (by decide) ?_
                refine lv_iload_n hx hb dX11_sheet_77 rfl (lv_at hl 2 rfl) ?_
                refine lv_tope (y := nI (ix sheet)) hs.1 ?_
                refine lv_imul hx hb dX11_sheet_78 ?_
                refine lv_tope (y := nI (40 * ix sheet)) (pk_mul 40 _) ?_
                refine lv_iload hx hb dX11_sheet_79 (lv_at hl 0 rfl) ?_
                refine lv_iadd hx hb dX11_sheet_81 ?_
                refine lv_tope (y := nI (40 * ix sheet + k)) (nI_add _ _) ?_
                refine lv_iconst (v := 0) hx hb dX11_sheet_82 (by decide) ?_
                refine rsj hf hk hw 3 rfl (j := 40 * ix sheet + k) (vp_in_nI (by omega) (by omega)) (nI_clamp (by omega)) dX11_sheet_83 (W' := [cob oh 11 [.ref os, .ref ok, .ref ol, .ref ord, .int isk, .ref odd, .ref otp, .int (nI tpd), .ref olt, .int oat, .int obg, .int otk, .int ovl, .ref orw, .int (nI rmn), .ref oso, .ref osz, .ref oit, .ref oho, .ref ohe, .ref otr, .int (nI tcd), .int own_, .int opt], cin g oso 4 (upd srt (ix sheet) sort), cin g osz 4 (upd szs (ix sheet) n), cin g oit 160 (upd vz (40 * ix sheet + k) 0)]) rfl (fun H locs hw => ?_)
                refine lv_iinc (v := nI (k + 1)) (lv' := [(4, .int (nI (k + 1))), (0, .ref oh), (1, .int sheet), (2, .int sort), (3, .int n)]) hx hb dX11_sheet_84 hl (k := 0) rfl (nI_1 _) (by decide) rfl (fun ls hl => ?_)
                refine lv_goto (tgt := 64) hx hb dX11_sheet_87 (by decide) ?_
                exact ih_64 (k + 1) (upd vz (40 * ix sheet + k) 0) (by omega) (by omega) (itZ_s ez) _ _ hw _ (lv_sub hl [0, 1, 2, 3, 4] rfl)
          exact lp_64_4 (40 + 1) 0 its (by omega) (by omega) (itZ_0 _ _) _ _ hw _ (lv_sub hl [0, 1, 2, 3, 4] rfl)
        · refine lv_iconst (v := 0) hx hb dX11_sheet_55 (by decide) ?_
          refine lv_goto (tgt := 60) hx hb dX11_sheet_56 (by decide) ?_
          refine rsj hf hk hw 2 rfl (j := ix sheet) (vp_in_nI (by omega) (by omega)) (nI_clamp (by omega)) dX11_sheet_60 (W' := [cob oh 11 [.ref os, .ref ok, .ref ol, .ref ord, .int isk, .ref odd, .ref otp, .int (nI tpd), .ref olt, .int oat, .int obg, .int otk, .int ovl, .ref orw, .int (nI rmn), .ref oso, .ref osz, .ref oit, .ref oho, .ref ohe, .ref otr, .int (nI tcd), .int own_, .int opt], cin g oso 4 (upd srt (ix sheet) sort), cin g osz 4 (upd szs (ix sheet) 0), cin g oit 160 its]) rfl (fun H locs hw => ?_)
          refine lv_iconst (v := 0) hx hb dX11_sheet_61 (by decide) ?_
          refine lv_istore (lv' := [(4, .int 0), (0, .ref oh), (1, .int sheet), (2, .int sort), (3, .int n)]) hx hb dX11_sheet_62 hl (by decide) rfl (fun ls hl => ?_)
          have lp_64_6 : ∀ (fu k : Nat) (vz : Nat → Int32), k ≤ 40 → 40 + 1 ≤ k + fu → (vz = itZ its (40 * ix sheet) k) → ∀ (H : Heap) (locs : List Loc), hv g (va_I [cob oh 11 [.ref os, .ref ok, .ref ol, .ref ord, .int isk, .ref odd, .ref otp, .int (nI tpd), .ref olt, .int oat, .int obg, .int otk, .int ovl, .ref orw, .int (nI rmn), .ref oso, .ref osz, .ref oit, .ref oho, .ref ohe, .ref otr, .int (nI tcd), .int own_, .int opt], cin g oso 4 srt, cin g osz 4 szs, cin g oit 160 its]) s H locs [cob oh 11 [.ref os, .ref ok, .ref ol, .ref ord, .int isk, .ref odd, .ref otp, .int (nI tpd), .ref olt, .int oat, .int obg, .int otk, .int ovl, .ref orw, .int (nI rmn), .ref oso, .ref osz, .ref oit, .ref oho, .ref ohe, .ref otr, .int (nI tcd), .int own_, .int opt], cin g oso 4 (upd srt (ix sheet) sort), cin g osz 4 (upd szs (ix sheet) 0), cin g oit 160 vz] → ∀ ls : Array Slot, lv_has ls 5 [(4, .int (nI k)), (0, .ref oh), (1, .int sheet), (2, .int sort), (3, .int n)] → W p l e rmX11_sheet s m ([.ref oh, .int sheet, .int sort, .int n] : List Value).toArray below meth c H locs 0 0 (MQ below (mtS g [cob oh 11 [.ref os, .ref ok, .ref ol, .ref ord, .int isk, .ref odd, .ref otp, .int (nI tpd), .ref olt, .int oat, .int obg, .int otk, .int ovl, .ref orw, .int (nI rmn), .ref oso, .ref osz, .ref oit, .ref oho, .ref ohe, .ref otr, .int (nI tcd), .int own_, .int opt], cin g oso 4 srt, cin g osz 4 szs, cin g oit 160 its] (fun rv W => rv = (some (.int (f_X11_sheet sheet sort n))) ∧ W = [cob oh 11 [.ref os, .ref ok, .ref ol, .ref ord, .int isk, .ref odd, .ref otp, .int (nI tpd), .ref olt, .int oat, .int obg, .int otk, .int ovl, .ref orw, .int (nI rmn), .ref oso, .ref osz, .ref oit, .ref oho, .ref ohe, .ref otr, .int (nI tcd), .int own_, .int opt], cin g oso 4 (f_X11_sheet_w1 srt sheet sort n), cin g osz 4 (f_X11_sheet_w2 szs sheet sort n), cin g oit 160 (f_X11_sheet_w3 its sheet sort n)])) ([.ref oh, .int sheet, .int sort, .int n] : List Value).toArray s 0 0 (va_I [cob oh 11 [.ref os, .ref ok, .ref ol, .ref ord, .int isk, .ref odd, .ref otp, .int (nI tpd), .ref olt, .int oat, .int obg, .int otk, .int ovl, .ref orw, .int (nI rmn), .ref oso, .ref osz, .ref oit, .ref oho, .ref ohe, .ref otr, .int (nI tcd), .int own_, .int opt], cin g oso 4 srt, cin g osz 4 szs, cin g oit 160 its])) (F0 m 64 ls []) := by
            intro fu
            induction fu with
            | zero =>
              intro k vz h1 h2
              exact absurd h2 (by omega)
            | succ fu ih_64 =>
              intro k vz hk1_64 hk2_64 ez H locs hw ls hl
              refine lv_iload hx hb dX11_sheet_64 (lv_at hl 0 rfl) ?_
              refine lv_bipush (v := 40) hx hb dX11_sheet_66 (by decide) ?_
              refine lv_icmp_ge (tgt := 90) hx hb dX11_sheet_68 (by decide) (fun c_8 => ?_) (fun c_8 => ?_)
              · have hkE : k = 40 := Nat.le_antisymm hk1_64 ((nI_leI (a := 40) (by omega) (by omega)).mp c_8)
                rw [hkE] at ez
                rw [ez] at hw
                refine lv_iconst (v := 1) hx hb dX11_sheet_90 (by decide) ?_
                exact rE_i hf hr hlk hw ⟨congrArg some (by simp only [f_X11_sheet, if_neg c_1, if_neg c_2, if_pos c_3, if_neg c_4, if_pos c_8]), by simp only [f_X11_sheet_w1, f_X11_sheet_w2, f_X11_sheet_w3, if_neg c_1, if_neg c_2, if_pos c_3, if_neg c_4, if_pos c_8]⟩ (show ([oh, oso, osz, oit] : List Nat) = [oh, oso, osz, oit] from rfl) dX11_sheet_91
              · have hkE : k < 40 := Nat.not_le.mp (fun h => c_8 ((nI_leI (a := 40) (by omega) (by omega)).mpr h))
                refine lv_aload_n hx hb dX11_sheet_71 rfl (lv_at hl 1 rfl) ?_
                refine rg hf hk hw hinX11 0 rfl rfl 17 (by decide) w_2 rfl dX11_sheet_72 ?_
                refine lv_bipush (v := 40) hx hb dX11_sheet_75 (by decide) ?_
                refine lv_iload_n hx hb dX11_sheet_77 rfl (lv_at hl 2 rfl) ?_
                refine lv_tope (y := nI (ix sheet)) hs.1 ?_
                refine lv_imul hx hb dX11_sheet_78 ?_
                refine lv_tope (y := nI (40 * ix sheet)) (pk_mul 40 _) ?_
                refine lv_iload hx hb dX11_sheet_79 (lv_at hl 0 rfl) ?_
                refine lv_iadd hx hb dX11_sheet_81 ?_
                refine lv_tope (y := nI (40 * ix sheet + k)) (nI_add _ _) ?_
                refine lv_iconst (v := 0) hx hb dX11_sheet_82 (by decide) ?_
                refine rsj hf hk hw 3 rfl (j := 40 * ix sheet + k) (vp_in_nI (by omega) (by omega)) (nI_clamp (by omega)) dX11_sheet_83 (W' := [cob oh 11 [.ref os, .ref ok, .ref ol, .ref ord, .int isk, .ref odd, .ref otp, .int (nI tpd), .ref olt, .int oat, .int obg, .int otk, .int ovl, .ref orw, .int (nI rmn), .ref oso, .ref osz, .ref oit, .ref oho, .ref ohe, .ref otr, .int (nI tcd), .int own_, .int opt], cin g oso 4 (upd srt (ix sheet) sort), cin g osz 4 (upd szs (ix sheet) 0), cin g oit 160 (upd vz (40 * ix sheet + k) 0)]) rfl (fun H locs hw => ?_)
                refine lv_iinc (v := nI (k + 1)) (lv' := [(4, .int (nI (k + 1))), (0, .ref oh), (1, .int sheet), (2, .int sort), (3, .int n)]) hx hb dX11_sheet_84 hl (k := 0) rfl (nI_1 _) (by decide) rfl (fun ls hl => ?_)
                refine lv_goto (tgt := 64) hx hb dX11_sheet_87 (by decide) ?_
                exact ih_64 (k + 1) (upd vz (40 * ix sheet + k) 0) (by omega) (by omega) (itZ_s ez) _ _ hw _ (lv_sub hl [0, 1, 2, 3, 4] rfl)
          exact lp_64_6 (40 + 1) 0 its (by omega) (by omega) (itZ_0 _ _) _ _ hw _ (lv_sub hl [0, 1, 2, 3, 4] rfl)
      · refine lv_iload_n hx hb dX11_sheet_20 rfl (lv_at hl 3 rfl) ?_
        refine lv_bipush (v := 40) hx hb dX11_sheet_21 (by decide) ?_
        refine lv_icmp_le (tgt := 28) hx hb dX11_sheet_23 (by decide) (fun c_9 => ?_) (fun c_9 => ?_)
        · refine lv_iload_n hx hb dX11_sheet_28 rfl (lv_at hl 2 rfl) ?_
          refine lv_if_lt (tgt := 39) hx hb dX11_sheet_29 (by decide) (fun q => absurd q (c_3)) (fun _ => ?_)
          refine lv_iload_n hx hb dX11_sheet_32 rfl (lv_at hl 3 rfl) ?_
          refine lv_if_ge (tgt := 39) hx hb dX11_sheet_33 (by decide) (fun c_10 => ?_) (fun c_10 => ?_)
          · refine lv_aload_n hx hb dX11_sheet_39 rfl (lv_at hl 0 rfl) ?_
            refine rg hf hk hw hinX11 0 rfl rfl 15 (by decide) w_0 rfl dX11_sheet_40 ?_
            refine lv_iload_n hx hb dX11_sheet_43 rfl (lv_at hl 1 rfl) ?_
            refine lv_tope (y := nI (ix sheet)) hs.1 ?_
            refine lv_iload_n hx hb dX11_sheet_44 rfl (lv_at hl 2 rfl) ?_
            refine rsj hf hk hw 1 rfl (j := ix sheet) (vp_in_nI (by omega) (by omega)) (nI_clamp (by omega)) dX11_sheet_45 (W' := [cob oh 11 [.ref os, .ref ok, .ref ol, .ref ord, .int isk, .ref odd, .ref otp, .int (nI tpd), .ref olt, .int oat, .int obg, .int otk, .int ovl, .ref orw, .int (nI rmn), .ref oso, .ref osz, .ref oit, .ref oho, .ref ohe, .ref otr, .int (nI tcd), .int own_, .int opt], cin g oso 4 (upd srt (ix sheet) sort), cin g osz 4 szs, cin g oit 160 its]) rfl (fun H locs hw => ?_)
            refine lv_aload_n hx hb dX11_sheet_46 rfl (lv_at hl 0 rfl) ?_
            refine rg hf hk hw hinX11 0 rfl rfl 16 (by decide) w_1 rfl dX11_sheet_47 ?_
            refine lv_iload_n hx hb dX11_sheet_50 rfl (lv_at hl 1 rfl) ?_
            refine lv_tope (y := nI (ix sheet)) hs.1 ?_
            refine lv_iload_n hx hb dX11_sheet_51 rfl (lv_at hl 2 rfl) ?_
            refine lv_if_ge (tgt := 59) hx hb dX11_sheet_52 (by decide) (fun c_11 => ?_) (fun c_11 => ?_)
            · refine lv_iload_n hx hb dX11_sheet_59 rfl (lv_at hl 3 rfl) ?_
              refine rsj hf hk hw 2 rfl (j := ix sheet) (vp_in_nI (by omega) (by omega)) (nI_clamp (by omega)) dX11_sheet_60 (W' := [cob oh 11 [.ref os, .ref ok, .ref ol, .ref ord, .int isk, .ref odd, .ref otp, .int (nI tpd), .ref olt, .int oat, .int obg, .int otk, .int ovl, .ref orw, .int (nI rmn), .ref oso, .ref osz, .ref oit, .ref oho, .ref ohe, .ref otr, .int (nI tcd), .int own_, .int opt], cin g oso 4 (upd srt (ix sheet) sort), cin g osz 4 (upd szs (ix sheet) n), cin g oit 160 its]) rfl (fun H locs hw => ?_)
              refine lv_iconst (v := 0) hx hb dX11_sheet_61 (by decide) ?_
              refine lv_istore (lv' := [(4, .int 0), (0, .ref oh), (1, .int sheet), (2, .int sort), (3, .int n)]) hx hb dX11_sheet_62 hl (by decide) rfl (fun ls hl => ?_)
              have lp_64_11 : ∀ (fu k : Nat) (vz : Nat → Int32), k ≤ 40 → 40 + 1 ≤ k + fu → (vz = itZ its (40 * ix sheet) k) → ∀ (H : Heap) (locs : List Loc), hv g (va_I [cob oh 11 [.ref os, .ref ok, .ref ol, .ref ord, .int isk, .ref odd, .ref otp, .int (nI tpd), .ref olt, .int oat, .int obg, .int otk, .int ovl, .ref orw, .int (nI rmn), .ref oso, .ref osz, .ref oit, .ref oho, .ref ohe, .ref otr, .int (nI tcd), .int own_, .int opt], cin g oso 4 srt, cin g osz 4 szs, cin g oit 160 its]) s H locs [cob oh 11 [.ref os, .ref ok, .ref ol, .ref ord, .int isk, .ref odd, .ref otp, .int (nI tpd), .ref olt, .int oat, .int obg, .int otk, .int ovl, .ref orw, .int (nI rmn), .ref oso, .ref osz, .ref oit, .ref oho, .ref ohe, .ref otr, .int (nI tcd), .int own_, .int opt], cin g oso 4 (upd srt (ix sheet) sort), cin g osz 4 (upd szs (ix sheet) n), cin g oit 160 vz] → ∀ ls : Array Slot, lv_has ls 5 [(4, .int (nI k)), (0, .ref oh), (1, .int sheet), (2, .int sort), (3, .int n)] → W p l e rmX11_sheet s m ([.ref oh, .int sheet, .int sort, .int n] : List Value).toArray below meth c H locs 0 0 (MQ below (mtS g [cob oh 11 [.ref os, .ref ok, .ref ol, .ref ord, .int isk, .ref odd, .ref otp, .int (nI tpd), .ref olt, .int oat, .int obg, .int otk, .int ovl, .ref orw, .int (nI rmn), .ref oso, .ref osz, .ref oit, .ref oho, .ref ohe, .ref otr, .int (nI tcd), .int own_, .int opt], cin g oso 4 srt, cin g osz 4 szs, cin g oit 160 its] (fun rv W => rv = (some (.int (f_X11_sheet sheet sort n))) ∧ W = [cob oh 11 [.ref os, .ref ok, .ref ol, .ref ord, .int isk, .ref odd, .ref otp, .int (nI tpd), .ref olt, .int oat, .int obg, .int otk, .int ovl, .ref orw, .int (nI rmn), .ref oso, .ref osz, .ref oit, .ref oho, .ref ohe, .ref otr, .int (nI tcd), .int own_, .int opt], cin g oso 4 (f_X11_sheet_w1 srt sheet sort n), cin g osz 4 (f_X11_sheet_w2 szs sheet sort n), cin g oit 160 (f_X11_sheet_w3 its sheet sort n)])) ([.ref oh, .int sheet, .int sort, .int n] : List Value).toArray s 0 0 (va_I [cob oh 11 [.ref os, .ref ok, .ref ol, .ref ord, .int isk, .ref odd, .ref otp, .int (nI tpd), .ref olt, .int oat, .int obg, .int otk, .int ovl, .ref orw, .int (nI rmn), .ref oso, .ref osz, .ref oit, .ref oho, .ref ohe, .ref otr, .int (nI tcd), .int own_, .int opt], cin g oso 4 srt, cin g osz 4 szs, cin g oit 160 its])) (F0 m 64 ls []) := by
                intro fu
                induction fu with
                | zero =>
                  intro k vz h1 h2
                  exact absurd h2 (by omega)
                | succ fu ih_64 =>
                  intro k vz hk1_64 hk2_64 ez H locs hw ls hl
                  refine lv_iload hx hb dX11_sheet_64 (lv_at hl 0 rfl) ?_
                  refine lv_bipush (v := 40) hx hb dX11_sheet_66 (by decide) ?_
                  refine lv_icmp_ge (tgt := 90) hx hb dX11_sheet_68 (by decide) (fun c_13 => ?_) (fun c_13 => ?_)
                  · have hkE : k = 40 := Nat.le_antisymm hk1_64 ((nI_leI (a := 40) (by omega) (by omega)).mp c_13)
                    rw [hkE] at ez
                    rw [ez] at hw
                    refine lv_iconst (v := 1) hx hb dX11_sheet_90 (by decide) ?_
                    exact rE_i hf hr hlk hw ⟨congrArg some (by simp only [f_X11_sheet, if_neg c_1, if_neg c_2, if_neg c_3, if_pos c_9, if_pos c_10, if_pos c_11, if_pos c_13]), by simp only [f_X11_sheet_w1, f_X11_sheet_w2, f_X11_sheet_w3, if_neg c_1, if_neg c_2, if_neg c_3, if_pos c_9, if_pos c_10, if_pos c_11, if_pos c_13]⟩ (show ([oh, oso, osz, oit] : List Nat) = [oh, oso, osz, oit] from rfl) dX11_sheet_91
                  · have hkE : k < 40 := Nat.not_le.mp (fun h => c_13 ((nI_leI (a := 40) (by omega) (by omega)).mpr h))
                    refine lv_aload_n hx hb dX11_sheet_71 rfl (lv_at hl 1 rfl) ?_
                    refine rg hf hk hw hinX11 0 rfl rfl 17 (by decide) w_2 rfl dX11_sheet_72 ?_
                    refine lv_bipush (v := 40) hx hb dX11_sheet_75 (by decide) ?_
                    refine lv_iload_n hx hb dX11_sheet_77 rfl (lv_at hl 2 rfl) ?_
                    refine lv_tope (y := nI (ix sheet)) hs.1 ?_
                    refine lv_imul hx hb dX11_sheet_78 ?_
                    refine lv_tope (y := nI (40 * ix sheet)) (pk_mul 40 _) ?_
                    refine lv_iload hx hb dX11_sheet_79 (lv_at hl 0 rfl) ?_
                    refine lv_iadd hx hb dX11_sheet_81 ?_
                    refine lv_tope (y := nI (40 * ix sheet + k)) (nI_add _ _) ?_
                    refine lv_iconst (v := 0) hx hb dX11_sheet_82 (by decide) ?_
                    refine rsj hf hk hw 3 rfl (j := 40 * ix sheet + k) (vp_in_nI (by omega) (by omega)) (nI_clamp (by omega)) dX11_sheet_83 (W' := [cob oh 11 [.ref os, .ref ok, .ref ol, .ref ord, .int isk, .ref odd, .ref otp, .int (nI tpd), .ref olt, .int oat, .int obg, .int otk, .int ovl, .ref orw, .int (nI rmn), .ref oso, .ref osz, .ref oit, .ref oho, .ref ohe, .ref otr, .int (nI tcd), .int own_, .int opt], cin g oso 4 (upd srt (ix sheet) sort), cin g osz 4 (upd szs (ix sheet) n), cin g oit 160 (upd vz (40 * ix sheet + k) 0)]) rfl (fun H locs hw => ?_)
                    refine lv_iinc (v := nI (k + 1)) (lv' := [(4, .int (nI (k + 1))), (0, .ref oh), (1, .int sheet), (2, .int sort), (3, .int n)]) hx hb dX11_sheet_84 hl (k := 0) rfl (nI_1 _) (by decide) rfl (fun ls hl => ?_)
                    refine lv_goto (tgt := 64) hx hb dX11_sheet_87 (by decide) ?_
                    exact ih_64 (k + 1) (upd vz (40 * ix sheet + k) 0) (by omega) (by omega) (itZ_s ez) _ _ hw _ (lv_sub hl [0, 1, 2, 3, 4] rfl)
              exact lp_64_11 (40 + 1) 0 its (by omega) (by omega) (itZ_0 _ _) _ _ hw _ (lv_sub hl [0, 1, 2, 3, 4] rfl)
            · refine lv_iconst (v := 0) hx hb dX11_sheet_55 (by decide) ?_
              refine lv_goto (tgt := 60) hx hb dX11_sheet_56 (by decide) ?_
              refine rsj hf hk hw 2 rfl (j := ix sheet) (vp_in_nI (by omega) (by omega)) (nI_clamp (by omega)) dX11_sheet_60 (W' := [cob oh 11 [.ref os, .ref ok, .ref ol, .ref ord, .int isk, .ref odd, .ref otp, .int (nI tpd), .ref olt, .int oat, .int obg, .int otk, .int ovl, .ref orw, .int (nI rmn), .ref oso, .ref osz, .ref oit, .ref oho, .ref ohe, .ref otr, .int (nI tcd), .int own_, .int opt], cin g oso 4 (upd srt (ix sheet) sort), cin g osz 4 (upd szs (ix sheet) 0), cin g oit 160 its]) rfl (fun H locs hw => ?_)
              refine lv_iconst (v := 0) hx hb dX11_sheet_61 (by decide) ?_
              refine lv_istore (lv' := [(4, .int 0), (0, .ref oh), (1, .int sheet), (2, .int sort), (3, .int n)]) hx hb dX11_sheet_62 hl (by decide) rfl (fun ls hl => ?_)
              have lp_64_13 : ∀ (fu k : Nat) (vz : Nat → Int32), k ≤ 40 → 40 + 1 ≤ k + fu → (vz = itZ its (40 * ix sheet) k) → ∀ (H : Heap) (locs : List Loc), hv g (va_I [cob oh 11 [.ref os, .ref ok, .ref ol, .ref ord, .int isk, .ref odd, .ref otp, .int (nI tpd), .ref olt, .int oat, .int obg, .int otk, .int ovl, .ref orw, .int (nI rmn), .ref oso, .ref osz, .ref oit, .ref oho, .ref ohe, .ref otr, .int (nI tcd), .int own_, .int opt], cin g oso 4 srt, cin g osz 4 szs, cin g oit 160 its]) s H locs [cob oh 11 [.ref os, .ref ok, .ref ol, .ref ord, .int isk, .ref odd, .ref otp, .int (nI tpd), .ref olt, .int oat, .int obg, .int otk, .int ovl, .ref orw, .int (nI rmn), .ref oso, .ref osz, .ref oit, .ref oho, .ref ohe, .ref otr, .int (nI tcd), .int own_, .int opt], cin g oso 4 (upd srt (ix sheet) sort), cin g osz 4 (upd szs (ix sheet) 0), cin g oit 160 vz] → ∀ ls : Array Slot, lv_has ls 5 [(4, .int (nI k)), (0, .ref oh), (1, .int sheet), (2, .int sort), (3, .int n)] → W p l e rmX11_sheet s m ([.ref oh, .int sheet, .int sort, .int n] : List Value).toArray below meth c H locs 0 0 (MQ below (mtS g [cob oh 11 [.ref os, .ref ok, .ref ol, .ref ord, .int isk, .ref odd, .ref otp, .int (nI tpd), .ref olt, .int oat, .int obg, .int otk, .int ovl, .ref orw, .int (nI rmn), .ref oso, .ref osz, .ref oit, .ref oho, .ref ohe, .ref otr, .int (nI tcd), .int own_, .int opt], cin g oso 4 srt, cin g osz 4 szs, cin g oit 160 its] (fun rv W => rv = (some (.int (f_X11_sheet sheet sort n))) ∧ W = [cob oh 11 [.ref os, .ref ok, .ref ol, .ref ord, .int isk, .ref odd, .ref otp, .int (nI tpd), .ref olt, .int oat, .int obg, .int otk, .int ovl, .ref orw, .int (nI rmn), .ref oso, .ref osz, .ref oit, .ref oho, .ref ohe, .ref otr, .int (nI tcd), .int own_, .int opt], cin g oso 4 (f_X11_sheet_w1 srt sheet sort n), cin g osz 4 (f_X11_sheet_w2 szs sheet sort n), cin g oit 160 (f_X11_sheet_w3 its sheet sort n)])) ([.ref oh, .int sheet, .int sort, .int n] : List Value).toArray s 0 0 (va_I [cob oh 11 [.ref os, .ref ok, .ref ol, .ref ord, .int isk, .ref odd, .ref otp, .int (nI tpd), .ref olt, .int oat, .int obg, .int otk, .int ovl, .ref orw, .int (nI rmn), .ref oso, .ref osz, .ref oit, .ref oho, .ref ohe, .ref otr, .int (nI tcd), .int own_, .int opt], cin g oso 4 srt, cin g osz 4 szs, cin g oit 160 its])) (F0 m 64 ls []) := by
                intro fu
                induction fu with
                | zero =>
                  intro k vz h1 h2
                  exact absurd h2 (by omega)
                | succ fu ih_64 =>
                  intro k vz hk1_64 hk2_64 ez H locs hw ls hl
                  refine lv_iload hx hb dX11_sheet_64 (lv_at hl 0 rfl) ?_
                  refine lv_bipush (v := 40) hx hb dX11_sheet_66 (by decide) ?_
                  refine lv_icmp_ge (tgt := 90) hx hb dX11_sheet_68 (by decide) (fun c_15 => ?_) (fun c_15 => ?_)
                  · have hkE : k = 40 := Nat.le_antisymm hk1_64 ((nI_leI (a := 40) (by omega) (by omega)).mp c_15)
                    rw [hkE] at ez
                    rw [ez] at hw
                    refine lv_iconst (v := 1) hx hb dX11_sheet_90 (by decide) ?_
                    exact rE_i hf hr hlk hw ⟨congrArg some (by simp only [f_X11_sheet, if_neg c_1, if_neg c_2, if_neg c_3, if_pos c_9, if_pos c_10, if_neg c_11, if_pos c_15]), by simp only [f_X11_sheet_w1, f_X11_sheet_w2, f_X11_sheet_w3, if_neg c_1, if_neg c_2, if_neg c_3, if_pos c_9, if_pos c_10, if_neg c_11, if_pos c_15]⟩ (show ([oh, oso, osz, oit] : List Nat) = [oh, oso, osz, oit] from rfl) dX11_sheet_91
                  · have hkE : k < 40 := Nat.not_le.mp (fun h => c_15 ((nI_leI (a := 40) (by omega) (by omega)).mpr h))
                    refine lv_aload_n hx hb dX11_sheet_71 rfl (lv_at hl 1 rfl) ?_
                    refine rg hf hk hw hinX11 0 rfl rfl 17 (by decide) w_2 rfl dX11_sheet_72 ?_
                    refine lv_bipush (v := 40) hx hb dX11_sheet_75 (by decide) ?_
                    refine lv_iload_n hx hb dX11_sheet_77 rfl (lv_at hl 2 rfl) ?_
                    refine lv_tope (y := nI (ix sheet)) hs.1 ?_
                    refine lv_imul hx hb dX11_sheet_78 ?_
                    refine lv_tope (y := nI (40 * ix sheet)) (pk_mul 40 _) ?_
                    refine lv_iload hx hb dX11_sheet_79 (lv_at hl 0 rfl) ?_
                    refine lv_iadd hx hb dX11_sheet_81 ?_
                    refine lv_tope (y := nI (40 * ix sheet + k)) (nI_add _ _) ?_
                    refine lv_iconst (v := 0) hx hb dX11_sheet_82 (by decide) ?_
                    refine rsj hf hk hw 3 rfl (j := 40 * ix sheet + k) (vp_in_nI (by omega) (by omega)) (nI_clamp (by omega)) dX11_sheet_83 (W' := [cob oh 11 [.ref os, .ref ok, .ref ol, .ref ord, .int isk, .ref odd, .ref otp, .int (nI tpd), .ref olt, .int oat, .int obg, .int otk, .int ovl, .ref orw, .int (nI rmn), .ref oso, .ref osz, .ref oit, .ref oho, .ref ohe, .ref otr, .int (nI tcd), .int own_, .int opt], cin g oso 4 (upd srt (ix sheet) sort), cin g osz 4 (upd szs (ix sheet) 0), cin g oit 160 (upd vz (40 * ix sheet + k) 0)]) rfl (fun H locs hw => ?_)
                    refine lv_iinc (v := nI (k + 1)) (lv' := [(4, .int (nI (k + 1))), (0, .ref oh), (1, .int sheet), (2, .int sort), (3, .int n)]) hx hb dX11_sheet_84 hl (k := 0) rfl (nI_1 _) (by decide) rfl (fun ls hl => ?_)
                    refine lv_goto (tgt := 64) hx hb dX11_sheet_87 (by decide) ?_
                    exact ih_64 (k + 1) (upd vz (40 * ix sheet + k) 0) (by omega) (by omega) (itZ_s ez) _ _ hw _ (lv_sub hl [0, 1, 2, 3, 4] rfl)
              exact lp_64_13 (40 + 1) 0 its (by omega) (by omega) (itZ_0 _ _) _ _ hw _ (lv_sub hl [0, 1, 2, 3, 4] rfl)
          · refine lv_bipush (v := (-14)) hx hb dX11_sheet_36 (by decide) ?_
            exact rE_i hf hr hlk hw ⟨congrArg some (by simp only [f_X11_sheet, if_neg c_1, if_neg c_2, if_neg c_3, if_pos c_9, if_neg c_10]), by simp only [f_X11_sheet_w1, f_X11_sheet_w2, f_X11_sheet_w3, if_neg c_1, if_neg c_2, if_neg c_3, if_pos c_9, if_neg c_10]⟩ (show ([oh, oso, osz, oit] : List Nat) = [oh, oso, osz, oit] from rfl) dX11_sheet_38
        · refine lv_iconst (v := (-1)) hx hb dX11_sheet_26 (by decide) ?_
          exact rE_i hf hr hlk hw ⟨congrArg some (by simp only [f_X11_sheet, if_neg c_1, if_neg c_2, if_neg c_3, if_neg c_9]), by simp only [f_X11_sheet_w1, f_X11_sheet_w2, f_X11_sheet_w3, if_neg c_1, if_neg c_2, if_neg c_3, if_neg c_9]⟩ (show ([oh, oso, osz, oit] : List Nat) = [oh, oso, osz, oit] from rfl) dX11_sheet_27
def f_X11_shelf (cnt : Nat) (shelf : Int32) (what : Int32) (n : Int32) : Int32 := if (nO shelf 0 3) = 0 then (-1) else (if (nO what 0 2) = 0 then (-1) else (if what = 0 then (if (f_X8_has cnt n) = 0 then (-1) else (if what = 1 then (if (nO n 0 3) = 0 then (-1) else 1) else 1)) else (if what = 1 then (if (nO n 0 3) = 0 then (-1) else 1) else 1)))
def f_X11_shelf_w1 (cnt : Nat) (srt : Nat → Int32) (hds : Nat → Int32) (shelf : Int32) (what : Int32) (n : Int32) : Nat → Int32 := if (nO shelf 0 3) = 0 then hds else (if (nO what 0 2) = 0 then hds else (if what = 0 then (if (f_X8_has cnt n) = 0 then hds else (if what = 1 then (if (nO n 0 3) = 0 then hds else (upd hds (ix shelf) 0)) else (upd hds (ix shelf) 0))) else (if what = 1 then (if (nO n 0 3) = 0 then hds else (if (srt (ix n)) < 0 then (upd hds (ix shelf) (-1)) else (upd hds (ix shelf) (10 + (srt (ix n)))))) else (upd hds (ix shelf) (-1)))))
def f_X11_shelf_w2 (cnt : Nat) (szs : Nat → Int32) (hdo : Nat → Int32) (shelf : Int32) (what : Int32) (n : Int32) : Nat → Int32 := if (nO shelf 0 3) = 0 then hdo else (if (nO what 0 2) = 0 then hdo else (if what = 0 then (if (f_X8_has cnt n) = 0 then hdo else (if what = 1 then (if (nO n 0 3) = 0 then hdo else (upd hdo (ix shelf) (nI (ix n)))) else (upd hdo (ix shelf) n))) else (if what = 1 then (if (nO n 0 3) = 0 then hdo else (upd hdo (ix shelf) (szs (ix n)))) else (upd hdo (ix shelf) 0))))
abbrev rmX11_shelf : Room := { frames := 2, cells := 0, slots := 0, locals := 43 }
set_option maxHeartbeats 4000000 in
set_option maxRecDepth 100000 in
theorem c_X11_shelf (l : Launch) (g : GG) (oh : Nat) (os : Nat) (ok : Nat) (ol : Nat) (ord : Nat) (odd : Nat) (otp : Nat) (olt : Nat) (orw : Nat) (oso : Nat) (osz : Nat) (oit : Nat) (oho : Nat) (ohe : Nat) (otr : Nat) (stp : Nat) (laws : Nat → Int32) (z : Int32) (cnt : Nat) (fogs : Nat → Int32) (arms : Nat → Int32) (kinds : Nat → Int32) (faiths : Nat → Int32) (places : Nat → Int32) (moved : Nat → Int32) (isk : Int32) (tpd : Nat) (oat : Int32) (obg : Int32) (otk : Int32) (ovl : Int32) (rmn : Nat) (tcd : Nat) (own_ : Int32) (opt : Int32) (srt : Nat → Int32) (szs : Nat → Int32) (hds : Nat → Int32) (hdo : Nat → Int32) (shelf : Int32) (what : Int32) (n : Int32) (hc8 : cnt ≤ 8) : mtR l g yX11_shelf wsX11_shelf rmX11_shelf [.ref oh, .int shelf, .int what, .int n] [cob oh 11 [.ref os, .ref ok, .ref ol, .ref ord, .int isk, .ref odd, .ref otp, .int (nI tpd), .ref olt, .int oat, .int obg, .int otk, .int ovl, .ref orw, .int (nI rmn), .ref oso, .ref osz, .ref oit, .ref oho, .ref ohe, .ref otr, .int (nI tcd), .int own_, .int opt], cin g os 51 (mR stp laws z cnt fogs arms kinds faiths places moved), cin g oso 4 srt, cin g osz 4 szs, cin g oho 4 hds, cin g ohe 4 hdo] (fun rv W => rv = (some (.int (f_X11_shelf cnt shelf what n))) ∧ W = [cob oh 11 [.ref os, .ref ok, .ref ol, .ref ord, .int isk, .ref odd, .ref otp, .int (nI tpd), .ref olt, .int oat, .int obg, .int otk, .int ovl, .ref orw, .int (nI rmn), .ref oso, .ref osz, .ref oit, .ref oho, .ref ohe, .ref otr, .int (nI tcd), .int own_, .int opt], cin g os 51 (mR stp laws z cnt fogs arms kinds faiths places moved), cin g oso 4 srt, cin g osz 4 szs, cin g oho 4 (f_X11_shelf_w1 cnt srt hds shelf what n), cin g ohe 4 (f_X11_shelf_w2 cnt szs hdo shelf what n)]) := by
  refine mtR.of (cc := cX11_shelf) (nL := 4) (ret := (some .int)) (own := RX11) (by decide +kernel) rfl rfl (Nat.le_of_ble_eq_true rfl) (fun p e s m below meth c hf hr hlk _ hk hst hw ls hl => ?_)
  have hx := hf.1
  have hb := hf.2.1
  have hts := hf.2.2.2.2
  have hl : lv_has ls 4 [(0, .ref oh), (1, .int shelf), (2, .int what), (3, .int n)] := hl
  have hinX11 : ∀ w ∈ u_ws RX11 TX11 24, w ∈ wsX11_shelf := fun w h => List.mem_cons_of_mem _ (List.mem_append_right _ h)
  have w_0 : Cond.fieldLink RX11 44 "LightManModel" "holds" "[I" ∈ wsX11_shelf := List.mem_of_getElem? (i := 1) rfl
  have w_1 : Cond.fieldLink RX11 47 "LightManModel" "heldOne" "[I" ∈ wsX11_shelf := List.mem_of_getElem? (i := 3) rfl
  have w_2 : Cond.fieldLink RX11 35 "LightManModel" "sorts" "[I" ∈ wsX11_shelf := List.mem_of_getElem? (i := 2) rfl
  have w_3 : Cond.fieldLink RX11 38 "LightManModel" "sizes" "[I" ∈ wsX11_shelf := List.mem_of_getElem? (i := 4) rfl
  refine lv_iload_n hx hb dX11_shelf_0 rfl (lv_at hl 1 rfl) ?_
  refine mcS hf hk hst hw (c_X11_isSheet l g shelf) (va_cwS 1 hts gX11_shelf_X11_isSheet rfl rfl rfl hdS_X11_isSheet ⟨Nat.le_of_ble_eq_true rfl, Nat.le_of_ble_eq_true rfl⟩) [] rfl rfl rfl hl.1 rfl (Nat.le_of_ble_eq_true rfl) dX11_shelf_1 ⟨Nat.zero_le _, Nat.zero_le _⟩ (W' := [cob oh 11 [.ref os, .ref ok, .ref ol, .ref ord, .int isk, .ref odd, .ref otp, .int (nI tpd), .ref olt, .int oat, .int obg, .int otk, .int ovl, .ref orw, .int (nI rmn), .ref oso, .ref osz, .ref oit, .ref oho, .ref ohe, .ref otr, .int (nI tcd), .int own_, .int opt], cin g os 51 (mR stp laws z cnt fogs arms kinds faiths places moved), cin g oso 4 srt, cin g osz 4 szs, cin g oho 4 hds, cin g ohe 4 hdo]) rfl (fun H locs hw => ?_)
  refine lv_if_eq (tgt := 40) hx hb dX11_shelf_4 (by decide) (fun c_1 => ?_) (fun c_1 => ?_)
  · refine lv_iconst (v := (-1)) hx hb dX11_shelf_40 (by decide) ?_
    exact rE_i hf hr hlk hw ⟨congrArg some (by simp only [f_X11_shelf, if_pos c_1]), by simp only [f_X11_shelf_w1, f_X11_shelf_w2, if_pos c_1]⟩ (show ([oh, os, oso, osz, oho, ohe] : List Nat) = [oh, os, oso, osz, oho, ohe] from rfl) dX11_shelf_41
  · have hs := out_n (N := 3) (by decide) (nO_1 c_1)
    have hs2 := hs.2
    refine lv_iload_n hx hb dX11_shelf_7 rfl (lv_at hl 2 rfl) ?_
    refine lv_iconst (v := 0) hx hb dX11_shelf_8 (by decide) ?_
    refine lv_iconst (v := 2) hx hb dX11_shelf_9 (by decide) ?_
    refine mcS hf hk hst hw (c_X11_in1 l g what 0 2) (va_cwS 3 hts gX11_shelf_X11_in1 rfl rfl rfl hdS_X11_in1 ⟨Nat.le_of_ble_eq_true rfl, Nat.le_of_ble_eq_true rfl⟩) [] rfl rfl rfl hl.1 rfl (Nat.le_of_ble_eq_true rfl) dX11_shelf_10 ⟨Nat.zero_le _, Nat.zero_le _⟩ (W' := [cob oh 11 [.ref os, .ref ok, .ref ol, .ref ord, .int isk, .ref odd, .ref otp, .int (nI tpd), .ref olt, .int oat, .int obg, .int otk, .int ovl, .ref orw, .int (nI rmn), .ref oso, .ref osz, .ref oit, .ref oho, .ref ohe, .ref otr, .int (nI tcd), .int own_, .int opt], cin g os 51 (mR stp laws z cnt fogs arms kinds faiths places moved), cin g oso 4 srt, cin g osz 4 szs, cin g oho 4 hds, cin g ohe 4 hdo]) rfl (fun H locs hw => ?_)
    refine lv_if_eq (tgt := 40) hx hb dX11_shelf_13 (by decide) (fun c_2 => ?_) (fun c_2 => ?_)
    · refine lv_iconst (v := (-1)) hx hb dX11_shelf_40 (by decide) ?_
      exact rE_i hf hr hlk hw ⟨congrArg some (by simp only [f_X11_shelf, if_neg c_1, if_pos c_2]), by simp only [f_X11_shelf_w1, f_X11_shelf_w2, if_neg c_1, if_pos c_2]⟩ (show ([oh, os, oso, osz, oho, ohe] : List Nat) = [oh, os, oso, osz, oho, ohe] from rfl) dX11_shelf_41
    · refine lv_iload_n hx hb dX11_shelf_16 rfl (lv_at hl 2 rfl) ?_
      refine lv_if_ne (tgt := 28) hx hb dX11_shelf_17 (by decide) (fun c_3 => ?_) (fun c_3 => ?_)
      · refine lv_iload_n hx hb dX11_shelf_28 rfl (lv_at hl 2 rfl) ?_
        refine lv_iconst (v := 1) hx hb dX11_shelf_29 (by decide) ?_
        refine lv_icmp_ne (tgt := 42) hx hb dX11_shelf_30 (by decide) (fun c_4 => ?_) (fun c_4 => ?_)
        · refine lv_aload_n hx hb dX11_shelf_42 rfl (lv_at hl 0 rfl) ?_
          refine rg hf hk hw hinX11 0 rfl rfl 18 (by decide) w_0 rfl dX11_shelf_43 ?_
          refine lv_iload_n hx hb dX11_shelf_46 rfl (lv_at hl 1 rfl) ?_
          refine lv_tope (y := nI (ix shelf)) hs.1 ?_
          refine lv_iload_n hx hb dX11_shelf_47 rfl (lv_at hl 2 rfl) ?_
          refine lv_if_ne (tgt := 55) hx hb dX11_shelf_48 (by decide) (fun _ => ?_) (fun q => absurd q (c_3))
          refine lv_iload_n hx hb dX11_shelf_55 rfl (lv_at hl 2 rfl) ?_
          refine lv_iconst (v := 1) hx hb dX11_shelf_56 (by decide) ?_
          refine lv_icmp_ne (tgt := 81) hx hb dX11_shelf_57 (by decide) (fun _ => ?_) (fun q => absurd q (c_4))
          refine lv_iconst (v := (-1)) hx hb dX11_shelf_81 (by decide) ?_
          refine rsj hf hk hw 4 rfl (j := ix shelf) (vp_in_nI (by omega) (by omega)) (nI_clamp (by omega)) dX11_shelf_82 (W' := [cob oh 11 [.ref os, .ref ok, .ref ol, .ref ord, .int isk, .ref odd, .ref otp, .int (nI tpd), .ref olt, .int oat, .int obg, .int otk, .int ovl, .ref orw, .int (nI rmn), .ref oso, .ref osz, .ref oit, .ref oho, .ref ohe, .ref otr, .int (nI tcd), .int own_, .int opt], cin g os 51 (mR stp laws z cnt fogs arms kinds faiths places moved), cin g oso 4 srt, cin g osz 4 szs, cin g oho 4 (upd hds (ix shelf) (-1)), cin g ohe 4 hdo]) rfl (fun H locs hw => ?_)
          refine lv_aload_n hx hb dX11_shelf_83 rfl (lv_at hl 0 rfl) ?_
          refine rg hf hk hw hinX11 0 rfl rfl 19 (by decide) w_1 rfl dX11_shelf_84 ?_
          refine lv_iload_n hx hb dX11_shelf_87 rfl (lv_at hl 1 rfl) ?_
          refine lv_tope (y := nI (ix shelf)) hs.1 ?_
          refine lv_iload_n hx hb dX11_shelf_88 rfl (lv_at hl 2 rfl) ?_
          refine lv_if_ne (tgt := 96) hx hb dX11_shelf_89 (by decide) (fun _ => ?_) (fun q => absurd q (c_3))
          refine lv_iload_n hx hb dX11_shelf_96 rfl (lv_at hl 2 rfl) ?_
          refine lv_iconst (v := 1) hx hb dX11_shelf_97 (by decide) ?_
          refine lv_icmp_ne (tgt := 110) hx hb dX11_shelf_98 (by decide) (fun _ => ?_) (fun q => absurd q (c_4))
          refine lv_iconst (v := 0) hx hb dX11_shelf_110 (by decide) ?_
          refine rsj hf hk hw 5 rfl (j := ix shelf) (vp_in_nI (by omega) (by omega)) (nI_clamp (by omega)) dX11_shelf_111 (W' := [cob oh 11 [.ref os, .ref ok, .ref ol, .ref ord, .int isk, .ref odd, .ref otp, .int (nI tpd), .ref olt, .int oat, .int obg, .int otk, .int ovl, .ref orw, .int (nI rmn), .ref oso, .ref osz, .ref oit, .ref oho, .ref ohe, .ref otr, .int (nI tcd), .int own_, .int opt], cin g os 51 (mR stp laws z cnt fogs arms kinds faiths places moved), cin g oso 4 srt, cin g osz 4 szs, cin g oho 4 (upd hds (ix shelf) (-1)), cin g ohe 4 (upd hdo (ix shelf) 0)]) rfl (fun H locs hw => ?_)
          refine lv_iconst (v := 1) hx hb dX11_shelf_112 (by decide) ?_
          exact rE_i hf hr hlk hw ⟨congrArg some (by simp only [f_X11_shelf, if_neg c_1, if_neg c_2, if_neg c_3, if_neg c_4]), by simp only [f_X11_shelf_w1, f_X11_shelf_w2, if_neg c_1, if_neg c_2, if_neg c_3, if_neg c_4]⟩ (show ([oh, os, oso, osz, oho, ohe] : List Nat) = [oh, os, oso, osz, oho, ohe] from rfl) dX11_shelf_113
        · refine lv_iload_n hx hb dX11_shelf_33 rfl (lv_at hl 3 rfl) ?_
          refine mcS hf hk hst hw (c_X11_isSheet l g n) (va_cwS 1 hts gX11_shelf_X11_isSheet rfl rfl rfl hdS_X11_isSheet ⟨Nat.le_of_ble_eq_true rfl, Nat.le_of_ble_eq_true rfl⟩) [] rfl rfl rfl hl.1 rfl (Nat.le_of_ble_eq_true rfl) dX11_shelf_34 ⟨Nat.zero_le _, Nat.zero_le _⟩ (W' := [cob oh 11 [.ref os, .ref ok, .ref ol, .ref ord, .int isk, .ref odd, .ref otp, .int (nI tpd), .ref olt, .int oat, .int obg, .int otk, .int ovl, .ref orw, .int (nI rmn), .ref oso, .ref osz, .ref oit, .ref oho, .ref ohe, .ref otr, .int (nI tcd), .int own_, .int opt], cin g os 51 (mR stp laws z cnt fogs arms kinds faiths places moved), cin g oso 4 srt, cin g osz 4 szs, cin g oho 4 hds, cin g ohe 4 hdo]) rfl (fun H locs hw => ?_)
          refine lv_if_ne (tgt := 42) hx hb dX11_shelf_37 (by decide) (fun c_5 => ?_) (fun c_5 => ?_)
          · have hn := out_n (N := 3) (by decide) (nO_1 c_5)
            have hn2 := hn.2
            refine lv_aload_n hx hb dX11_shelf_42 rfl (lv_at hl 0 rfl) ?_
            refine rg hf hk hw hinX11 0 rfl rfl 18 (by decide) w_0 rfl dX11_shelf_43 ?_
            refine lv_iload_n hx hb dX11_shelf_46 rfl (lv_at hl 1 rfl) ?_
            refine lv_tope (y := nI (ix shelf)) hs.1 ?_
            refine lv_iload_n hx hb dX11_shelf_47 rfl (lv_at hl 2 rfl) ?_
            refine lv_if_ne (tgt := 55) hx hb dX11_shelf_48 (by decide) (fun _ => ?_) (fun q => absurd q (c_3))
            refine lv_iload_n hx hb dX11_shelf_55 rfl (lv_at hl 2 rfl) ?_
            refine lv_iconst (v := 1) hx hb dX11_shelf_56 (by decide) ?_
            refine lv_icmp_ne (tgt := 81) hx hb dX11_shelf_57 (by decide) (fun q => absurd (c_4) q) (fun _ => ?_)
            refine lv_aload_n hx hb dX11_shelf_60 rfl (lv_at hl 0 rfl) ?_
            refine rg hf hk hw hinX11 0 rfl rfl 15 (by decide) w_2 rfl dX11_shelf_61 ?_
            refine lv_iload_n hx hb dX11_shelf_64 rfl (lv_at hl 3 rfl) ?_
            refine lv_tope (y := nI (ix n)) hn.1 ?_
            refine rij hf hk hw 2 rfl (j := ix n) (vp_in_nI (by omega) (by omega)) (nI_clamp (by omega)) dX11_shelf_65 ?_
            refine lv_if_lt (tgt := 81) hx hb dX11_shelf_66 (by decide) (fun c_6 => ?_) (fun c_6 => ?_)
            · refine lv_iconst (v := (-1)) hx hb dX11_shelf_81 (by decide) ?_
              refine rsj hf hk hw 4 rfl (j := ix shelf) (vp_in_nI (by omega) (by omega)) (nI_clamp (by omega)) dX11_shelf_82 (W' := [cob oh 11 [.ref os, .ref ok, .ref ol, .ref ord, .int isk, .ref odd, .ref otp, .int (nI tpd), .ref olt, .int oat, .int obg, .int otk, .int ovl, .ref orw, .int (nI rmn), .ref oso, .ref osz, .ref oit, .ref oho, .ref ohe, .ref otr, .int (nI tcd), .int own_, .int opt], cin g os 51 (mR stp laws z cnt fogs arms kinds faiths places moved), cin g oso 4 srt, cin g osz 4 szs, cin g oho 4 (upd hds (ix shelf) (-1)), cin g ohe 4 hdo]) rfl (fun H locs hw => ?_)
              refine lv_aload_n hx hb dX11_shelf_83 rfl (lv_at hl 0 rfl) ?_
              refine rg hf hk hw hinX11 0 rfl rfl 19 (by decide) w_1 rfl dX11_shelf_84 ?_
              refine lv_iload_n hx hb dX11_shelf_87 rfl (lv_at hl 1 rfl) ?_
              refine lv_tope (y := nI (ix shelf)) hs.1 ?_
              refine lv_iload_n hx hb dX11_shelf_88 rfl (lv_at hl 2 rfl) ?_
              refine lv_if_ne (tgt := 96) hx hb dX11_shelf_89 (by decide) (fun _ => ?_) (fun q => absurd q (c_3))
              refine lv_iload_n hx hb dX11_shelf_96 rfl (lv_at hl 2 rfl) ?_
              refine lv_iconst (v := 1) hx hb dX11_shelf_97 (by decide) ?_
              refine lv_icmp_ne (tgt := 110) hx hb dX11_shelf_98 (by decide) (fun q => absurd (c_4) q) (fun _ => ?_)
              refine lv_aload_n hx hb dX11_shelf_101 rfl (lv_at hl 0 rfl) ?_
              refine rg hf hk hw hinX11 0 rfl rfl 16 (by decide) w_3 rfl dX11_shelf_102 ?_
              refine lv_iload_n hx hb dX11_shelf_105 rfl (lv_at hl 3 rfl) ?_
              refine lv_tope (y := nI (ix n)) hn.1 ?_
              refine rij hf hk hw 3 rfl (j := ix n) (vp_in_nI (by omega) (by omega)) (nI_clamp (by omega)) dX11_shelf_106 ?_
              refine lv_goto (tgt := 111) hx hb dX11_shelf_107 (by decide) ?_
              refine rsj hf hk hw 5 rfl (j := ix shelf) (vp_in_nI (by omega) (by omega)) (nI_clamp (by omega)) dX11_shelf_111 (W' := [cob oh 11 [.ref os, .ref ok, .ref ol, .ref ord, .int isk, .ref odd, .ref otp, .int (nI tpd), .ref olt, .int oat, .int obg, .int otk, .int ovl, .ref orw, .int (nI rmn), .ref oso, .ref osz, .ref oit, .ref oho, .ref ohe, .ref otr, .int (nI tcd), .int own_, .int opt], cin g os 51 (mR stp laws z cnt fogs arms kinds faiths places moved), cin g oso 4 srt, cin g osz 4 szs, cin g oho 4 (upd hds (ix shelf) (-1)), cin g ohe 4 (upd hdo (ix shelf) (szs (ix n)))]) rfl (fun H locs hw => ?_)
              refine lv_iconst (v := 1) hx hb dX11_shelf_112 (by decide) ?_
              exact rE_i hf hr hlk hw ⟨congrArg some (by simp only [f_X11_shelf, if_neg c_1, if_neg c_2, if_neg c_3, if_pos c_4, if_neg c_5, if_pos c_6]), by simp only [f_X11_shelf_w1, f_X11_shelf_w2, if_neg c_1, if_neg c_2, if_neg c_3, if_pos c_4, if_neg c_5, if_pos c_6]⟩ (show ([oh, os, oso, osz, oho, ohe] : List Nat) = [oh, os, oso, osz, oho, ohe] from rfl) dX11_shelf_113
            · refine lv_bipush (v := 10) hx hb dX11_shelf_69 (by decide) ?_
              refine lv_aload_n hx hb dX11_shelf_71 rfl (lv_at hl 0 rfl) ?_
              refine rg hf hk hw hinX11 0 rfl rfl 15 (by decide) w_2 rfl dX11_shelf_72 ?_
              refine lv_iload_n hx hb dX11_shelf_75 rfl (lv_at hl 3 rfl) ?_
              refine lv_tope (y := nI (ix n)) hn.1 ?_
              refine rij hf hk hw 2 rfl (j := ix n) (vp_in_nI (by omega) (by omega)) (nI_clamp (by omega)) dX11_shelf_76 ?_
              refine lv_iadd hx hb dX11_shelf_77 ?_
              refine lv_goto (tgt := 82) hx hb dX11_shelf_78 (by decide) ?_
              refine rsj hf hk hw 4 rfl (j := ix shelf) (vp_in_nI (by omega) (by omega)) (nI_clamp (by omega)) dX11_shelf_82 (W' := [cob oh 11 [.ref os, .ref ok, .ref ol, .ref ord, .int isk, .ref odd, .ref otp, .int (nI tpd), .ref olt, .int oat, .int obg, .int otk, .int ovl, .ref orw, .int (nI rmn), .ref oso, .ref osz, .ref oit, .ref oho, .ref ohe, .ref otr, .int (nI tcd), .int own_, .int opt], cin g os 51 (mR stp laws z cnt fogs arms kinds faiths places moved), cin g oso 4 srt, cin g osz 4 szs, cin g oho 4 (upd hds (ix shelf) (10 + (srt (ix n)))), cin g ohe 4 hdo]) rfl (fun H locs hw => ?_)
              refine lv_aload_n hx hb dX11_shelf_83 rfl (lv_at hl 0 rfl) ?_
              refine rg hf hk hw hinX11 0 rfl rfl 19 (by decide) w_1 rfl dX11_shelf_84 ?_
              refine lv_iload_n hx hb dX11_shelf_87 rfl (lv_at hl 1 rfl) ?_
              refine lv_tope (y := nI (ix shelf)) hs.1 ?_
              refine lv_iload_n hx hb dX11_shelf_88 rfl (lv_at hl 2 rfl) ?_
              refine lv_if_ne (tgt := 96) hx hb dX11_shelf_89 (by decide) (fun _ => ?_) (fun q => absurd q (c_3))
              refine lv_iload_n hx hb dX11_shelf_96 rfl (lv_at hl 2 rfl) ?_
              refine lv_iconst (v := 1) hx hb dX11_shelf_97 (by decide) ?_
              refine lv_icmp_ne (tgt := 110) hx hb dX11_shelf_98 (by decide) (fun q => absurd (c_4) q) (fun _ => ?_)
              refine lv_aload_n hx hb dX11_shelf_101 rfl (lv_at hl 0 rfl) ?_
              refine rg hf hk hw hinX11 0 rfl rfl 16 (by decide) w_3 rfl dX11_shelf_102 ?_
              refine lv_iload_n hx hb dX11_shelf_105 rfl (lv_at hl 3 rfl) ?_
              refine lv_tope (y := nI (ix n)) hn.1 ?_
              refine rij hf hk hw 3 rfl (j := ix n) (vp_in_nI (by omega) (by omega)) (nI_clamp (by omega)) dX11_shelf_106 ?_
              refine lv_goto (tgt := 111) hx hb dX11_shelf_107 (by decide) ?_
              refine rsj hf hk hw 5 rfl (j := ix shelf) (vp_in_nI (by omega) (by omega)) (nI_clamp (by omega)) dX11_shelf_111 (W' := [cob oh 11 [.ref os, .ref ok, .ref ol, .ref ord, .int isk, .ref odd, .ref otp, .int (nI tpd), .ref olt, .int oat, .int obg, .int otk, .int ovl, .ref orw, .int (nI rmn), .ref oso, .ref osz, .ref oit, .ref oho, .ref ohe, .ref otr, .int (nI tcd), .int own_, .int opt], cin g os 51 (mR stp laws z cnt fogs arms kinds faiths places moved), cin g oso 4 srt, cin g osz 4 szs, cin g oho 4 (upd hds (ix shelf) (10 + (srt (ix n)))), cin g ohe 4 (upd hdo (ix shelf) (szs (ix n)))]) rfl (fun H locs hw => ?_)
              refine lv_iconst (v := 1) hx hb dX11_shelf_112 (by decide) ?_
              exact rE_i hf hr hlk hw ⟨congrArg some (by simp only [f_X11_shelf, if_neg c_1, if_neg c_2, if_neg c_3, if_pos c_4, if_neg c_5, if_neg c_6]), by simp only [f_X11_shelf_w1, f_X11_shelf_w2, if_neg c_1, if_neg c_2, if_neg c_3, if_pos c_4, if_neg c_5, if_neg c_6]⟩ (show ([oh, os, oso, osz, oho, ohe] : List Nat) = [oh, os, oso, osz, oho, ohe] from rfl) dX11_shelf_113
          · refine lv_iconst (v := (-1)) hx hb dX11_shelf_40 (by decide) ?_
            exact rE_i hf hr hlk hw ⟨congrArg some (by simp only [f_X11_shelf, if_neg c_1, if_neg c_2, if_neg c_3, if_pos c_4, if_pos c_5]), by simp only [f_X11_shelf_w1, f_X11_shelf_w2, if_neg c_1, if_neg c_2, if_neg c_3, if_pos c_4, if_pos c_5]⟩ (show ([oh, os, oso, osz, oho, ohe] : List Nat) = [oh, os, oso, osz, oho, ohe] from rfl) dX11_shelf_41
      · refine lv_aload_n hx hb dX11_shelf_20 rfl (lv_at hl 0 rfl) ?_
        refine lv_iload_n hx hb dX11_shelf_21 rfl (lv_at hl 3 rfl) ?_
        refine mcV hf hk hst hw (c_X11_isGoer l g oh os ok ol ord odd otp olt orw oso osz oit oho ohe otr stp laws z cnt fogs arms kinds faiths places moved isk tpd oat obg otk ovl rmn tcd own_ opt n (by omega)) (cwV 1 hts gX11_shelf_X11_isGoer rfl rfl rfl hdV_X11_isGoer ⟨Nat.le_of_ble_eq_true rfl, Nat.le_of_ble_eq_true rfl⟩) [0, 1] rfl rfl 0 rfl rfl rfl hl.1 rfl (Nat.le_of_ble_eq_true rfl) dX11_shelf_22 ⟨Nat.zero_le _, Nat.zero_le _⟩ (W' := [cob oh 11 [.ref os, .ref ok, .ref ol, .ref ord, .int isk, .ref odd, .ref otp, .int (nI tpd), .ref olt, .int oat, .int obg, .int otk, .int ovl, .ref orw, .int (nI rmn), .ref oso, .ref osz, .ref oit, .ref oho, .ref ohe, .ref otr, .int (nI tcd), .int own_, .int opt], cin g os 51 (mR stp laws z cnt fogs arms kinds faiths places moved), cin g oso 4 srt, cin g osz 4 szs, cin g oho 4 hds, cin g ohe 4 hdo]) rfl (fun H locs hw => ?_)
        refine lv_if_eq (tgt := 40) hx hb dX11_shelf_25 (by decide) (fun c_7 => ?_) (fun c_7 => ?_)
        · refine lv_iconst (v := (-1)) hx hb dX11_shelf_40 (by decide) ?_
          exact rE_i hf hr hlk hw ⟨congrArg some (by simp only [f_X11_shelf, if_neg c_1, if_neg c_2, if_pos c_3, if_pos c_7]), by simp only [f_X11_shelf_w1, f_X11_shelf_w2, if_neg c_1, if_neg c_2, if_pos c_3, if_pos c_7]⟩ (show ([oh, os, oso, osz, oho, ohe] : List Nat) = [oh, os, oso, osz, oho, ohe] from rfl) dX11_shelf_41
        · refine lv_iload_n hx hb dX11_shelf_28 rfl (lv_at hl 2 rfl) ?_
          refine lv_iconst (v := 1) hx hb dX11_shelf_29 (by decide) ?_
          refine lv_icmp_ne (tgt := 42) hx hb dX11_shelf_30 (by decide) (fun c_8 => ?_) (fun c_8 => ?_)
          · refine lv_aload_n hx hb dX11_shelf_42 rfl (lv_at hl 0 rfl) ?_
            refine rg hf hk hw hinX11 0 rfl rfl 18 (by decide) w_0 rfl dX11_shelf_43 ?_
            refine lv_iload_n hx hb dX11_shelf_46 rfl (lv_at hl 1 rfl) ?_
            refine lv_tope (y := nI (ix shelf)) hs.1 ?_
            refine lv_iload_n hx hb dX11_shelf_47 rfl (lv_at hl 2 rfl) ?_
            refine lv_if_ne (tgt := 55) hx hb dX11_shelf_48 (by decide) (fun q => absurd (c_3) q) (fun _ => ?_)
            refine lv_iconst (v := 0) hx hb dX11_shelf_51 (by decide) ?_
            refine lv_goto (tgt := 82) hx hb dX11_shelf_52 (by decide) ?_
            refine rsj hf hk hw 4 rfl (j := ix shelf) (vp_in_nI (by omega) (by omega)) (nI_clamp (by omega)) dX11_shelf_82 (W' := [cob oh 11 [.ref os, .ref ok, .ref ol, .ref ord, .int isk, .ref odd, .ref otp, .int (nI tpd), .ref olt, .int oat, .int obg, .int otk, .int ovl, .ref orw, .int (nI rmn), .ref oso, .ref osz, .ref oit, .ref oho, .ref ohe, .ref otr, .int (nI tcd), .int own_, .int opt], cin g os 51 (mR stp laws z cnt fogs arms kinds faiths places moved), cin g oso 4 srt, cin g osz 4 szs, cin g oho 4 (upd hds (ix shelf) 0), cin g ohe 4 hdo]) rfl (fun H locs hw => ?_)
            refine lv_aload_n hx hb dX11_shelf_83 rfl (lv_at hl 0 rfl) ?_
            refine rg hf hk hw hinX11 0 rfl rfl 19 (by decide) w_1 rfl dX11_shelf_84 ?_
            refine lv_iload_n hx hb dX11_shelf_87 rfl (lv_at hl 1 rfl) ?_
            refine lv_tope (y := nI (ix shelf)) hs.1 ?_
            refine lv_iload_n hx hb dX11_shelf_88 rfl (lv_at hl 2 rfl) ?_
            refine lv_if_ne (tgt := 96) hx hb dX11_shelf_89 (by decide) (fun q => absurd (c_3) q) (fun _ => ?_)
            refine lv_iload_n hx hb dX11_shelf_92 rfl (lv_at hl 3 rfl) ?_
            refine lv_goto (tgt := 111) hx hb dX11_shelf_93 (by decide) ?_
            refine rsj hf hk hw 5 rfl (j := ix shelf) (vp_in_nI (by omega) (by omega)) (nI_clamp (by omega)) dX11_shelf_111 (W' := [cob oh 11 [.ref os, .ref ok, .ref ol, .ref ord, .int isk, .ref odd, .ref otp, .int (nI tpd), .ref olt, .int oat, .int obg, .int otk, .int ovl, .ref orw, .int (nI rmn), .ref oso, .ref osz, .ref oit, .ref oho, .ref ohe, .ref otr, .int (nI tcd), .int own_, .int opt], cin g os 51 (mR stp laws z cnt fogs arms kinds faiths places moved), cin g oso 4 srt, cin g osz 4 szs, cin g oho 4 (upd hds (ix shelf) 0), cin g ohe 4 (upd hdo (ix shelf) n)]) rfl (fun H locs hw => ?_)
            refine lv_iconst (v := 1) hx hb dX11_shelf_112 (by decide) ?_
            exact rE_i hf hr hlk hw ⟨congrArg some (by simp only [f_X11_shelf, if_neg c_1, if_neg c_2, if_pos c_3, if_neg c_7, if_neg c_8]), by simp only [f_X11_shelf_w1, f_X11_shelf_w2, if_neg c_1, if_neg c_2, if_pos c_3, if_neg c_7, if_neg c_8]⟩ (show ([oh, os, oso, osz, oho, ohe] : List Nat) = [oh, os, oso, osz, oho, ohe] from rfl) dX11_shelf_113
          · refine lv_iload_n hx hb dX11_shelf_33 rfl (lv_at hl 3 rfl) ?_
            refine mcS hf hk hst hw (c_X11_isSheet l g n) (va_cwS 1 hts gX11_shelf_X11_isSheet rfl rfl rfl hdS_X11_isSheet ⟨Nat.le_of_ble_eq_true rfl, Nat.le_of_ble_eq_true rfl⟩) [] rfl rfl rfl hl.1 rfl (Nat.le_of_ble_eq_true rfl) dX11_shelf_34 ⟨Nat.zero_le _, Nat.zero_le _⟩ (W' := [cob oh 11 [.ref os, .ref ok, .ref ol, .ref ord, .int isk, .ref odd, .ref otp, .int (nI tpd), .ref olt, .int oat, .int obg, .int otk, .int ovl, .ref orw, .int (nI rmn), .ref oso, .ref osz, .ref oit, .ref oho, .ref ohe, .ref otr, .int (nI tcd), .int own_, .int opt], cin g os 51 (mR stp laws z cnt fogs arms kinds faiths places moved), cin g oso 4 srt, cin g osz 4 szs, cin g oho 4 hds, cin g ohe 4 hdo]) rfl (fun H locs hw => ?_)
            refine lv_if_ne (tgt := 42) hx hb dX11_shelf_37 (by decide) (fun c_9 => ?_) (fun c_9 => ?_)
            · have hn := out_n (N := 3) (by decide) (nO_1 c_9)
              have hn2 := hn.2
              refine lv_aload_n hx hb dX11_shelf_42 rfl (lv_at hl 0 rfl) ?_
              refine rg hf hk hw hinX11 0 rfl rfl 18 (by decide) w_0 rfl dX11_shelf_43 ?_
              refine lv_iload_n hx hb dX11_shelf_46 rfl (lv_at hl 1 rfl) ?_
              refine lv_tope (y := nI (ix shelf)) hs.1 ?_
              refine lv_iload_n hx hb dX11_shelf_47 rfl (lv_at hl 2 rfl) ?_
              refine lv_if_ne (tgt := 55) hx hb dX11_shelf_48 (by decide) (fun q => absurd (c_3) q) (fun _ => ?_)
              refine lv_iconst (v := 0) hx hb dX11_shelf_51 (by decide) ?_
              refine lv_goto (tgt := 82) hx hb dX11_shelf_52 (by decide) ?_
              refine rsj hf hk hw 4 rfl (j := ix shelf) (vp_in_nI (by omega) (by omega)) (nI_clamp (by omega)) dX11_shelf_82 (W' := [cob oh 11 [.ref os, .ref ok, .ref ol, .ref ord, .int isk, .ref odd, .ref otp, .int (nI tpd), .ref olt, .int oat, .int obg, .int otk, .int ovl, .ref orw, .int (nI rmn), .ref oso, .ref osz, .ref oit, .ref oho, .ref ohe, .ref otr, .int (nI tcd), .int own_, .int opt], cin g os 51 (mR stp laws z cnt fogs arms kinds faiths places moved), cin g oso 4 srt, cin g osz 4 szs, cin g oho 4 (upd hds (ix shelf) 0), cin g ohe 4 hdo]) rfl (fun H locs hw => ?_)
              refine lv_aload_n hx hb dX11_shelf_83 rfl (lv_at hl 0 rfl) ?_
              refine rg hf hk hw hinX11 0 rfl rfl 19 (by decide) w_1 rfl dX11_shelf_84 ?_
              refine lv_iload_n hx hb dX11_shelf_87 rfl (lv_at hl 1 rfl) ?_
              refine lv_tope (y := nI (ix shelf)) hs.1 ?_
              refine lv_iload_n hx hb dX11_shelf_88 rfl (lv_at hl 2 rfl) ?_
              refine lv_if_ne (tgt := 96) hx hb dX11_shelf_89 (by decide) (fun q => absurd (c_3) q) (fun _ => ?_)
              refine lv_iload_n hx hb dX11_shelf_92 rfl (lv_at hl 3 rfl) ?_
              refine lv_tope (y := nI (ix n)) hn.1 ?_
              refine lv_goto (tgt := 111) hx hb dX11_shelf_93 (by decide) ?_
              refine rsj hf hk hw 5 rfl (j := ix shelf) (vp_in_nI (by omega) (by omega)) (nI_clamp (by omega)) dX11_shelf_111 (W' := [cob oh 11 [.ref os, .ref ok, .ref ol, .ref ord, .int isk, .ref odd, .ref otp, .int (nI tpd), .ref olt, .int oat, .int obg, .int otk, .int ovl, .ref orw, .int (nI rmn), .ref oso, .ref osz, .ref oit, .ref oho, .ref ohe, .ref otr, .int (nI tcd), .int own_, .int opt], cin g os 51 (mR stp laws z cnt fogs arms kinds faiths places moved), cin g oso 4 srt, cin g osz 4 szs, cin g oho 4 (upd hds (ix shelf) 0), cin g ohe 4 (upd hdo (ix shelf) (nI (ix n)))]) rfl (fun H locs hw => ?_)
              refine lv_iconst (v := 1) hx hb dX11_shelf_112 (by decide) ?_
              exact rE_i hf hr hlk hw ⟨congrArg some (by simp only [f_X11_shelf, if_neg c_1, if_neg c_2, if_pos c_3, if_neg c_7, if_pos c_8, if_neg c_9]), by simp only [f_X11_shelf_w1, f_X11_shelf_w2, if_neg c_1, if_neg c_2, if_pos c_3, if_neg c_7, if_pos c_8, if_neg c_9]⟩ (show ([oh, os, oso, osz, oho, ohe] : List Nat) = [oh, os, oso, osz, oho, ohe] from rfl) dX11_shelf_113
            · refine lv_iconst (v := (-1)) hx hb dX11_shelf_40 (by decide) ?_
              exact rE_i hf hr hlk hw ⟨congrArg some (by simp only [f_X11_shelf, if_neg c_1, if_neg c_2, if_pos c_3, if_neg c_7, if_pos c_8, if_pos c_9]), by simp only [f_X11_shelf_w1, f_X11_shelf_w2, if_neg c_1, if_neg c_2, if_pos c_3, if_neg c_7, if_pos c_8, if_pos c_9]⟩ (show ([oh, os, oso, osz, oho, ohe] : List Nat) = [oh, os, oso, osz, oho, ohe] from rfl) dX11_shelf_41
def f_X11_isUnder (kd : Int32) (of_ : Int32) : Int32 := if of_ = 0 then 1 else (if kd = of_ then 1 else (if of_ = 1 then (if kd = 3 then 1 else (if of_ = 2 then (if kd = 4 then 1 else 0) else 0)) else (if of_ = 2 then (if kd = 4 then 1 else 0) else 0)))
abbrev rmX11_isUnder : Room := { frames := 0, cells := 0, slots := 0, locals := 0 }
set_option maxHeartbeats 4000000 in
set_option maxRecDepth 100000 in
theorem c_X11_isUnder (l : Launch) (g : GG) (kd : Int32) (of_ : Int32) : mt l g yX11_isUnder wsX11_isUnder rmX11_isUnder [.int kd, .int of_] [] (some (.int (f_X11_isUnder kd of_))) [] := by
  refine mt.of (cc := cX11_isUnder) (nL := 2) (ret := (some .boolean)) (own := RX11) (by decide +kernel) rfl rfl (show ([] : List Nat) = [] from rfl) (Nat.le_of_ble_eq_true rfl) (fun p e s m below meth c hf hr hlk _ hk hst hw ls hl => ?_)
  have hx := hf.1
  have hb := hf.2.1
  have hts := hf.2.2.2.2
  have hl : lv_has ls 2 [(0, .int kd), (1, .int of_)] := hl
  refine lv_iload_n hx hb dX11_isUnder_0 rfl (lv_at hl 1 rfl) ?_
  refine lv_if_eq (tgt := 29) hx hb dX11_isUnder_1 (by decide) (fun c_1 => ?_) (fun c_1 => ?_)
  · refine lv_iconst (v := 1) hx hb dX11_isUnder_29 (by decide) ?_
    refine lv_goto (tgt := 34) hx hb dX11_isUnder_30 (by decide) ?_
    exact re_z hf hr hlk hw (rfl) (by simp only [f_X11_isUnder, if_pos c_1]) (rfl) dX11_isUnder_34
  · refine lv_iload_n hx hb dX11_isUnder_4 rfl (lv_at hl 0 rfl) ?_
    refine lv_iload_n hx hb dX11_isUnder_5 rfl (lv_at hl 1 rfl) ?_
    refine lv_icmp_eq (tgt := 29) hx hb dX11_isUnder_6 (by decide) (fun c_2 => ?_) (fun c_2 => ?_)
    · refine lv_iconst (v := 1) hx hb dX11_isUnder_29 (by decide) ?_
      refine lv_goto (tgt := 34) hx hb dX11_isUnder_30 (by decide) ?_
      exact re_z hf hr hlk hw (rfl) (by simp only [f_X11_isUnder, if_neg c_1, if_pos c_2]) (rfl) dX11_isUnder_34
    · refine lv_iload_n hx hb dX11_isUnder_9 rfl (lv_at hl 1 rfl) ?_
      refine lv_iconst (v := 1) hx hb dX11_isUnder_10 (by decide) ?_
      refine lv_icmp_ne (tgt := 19) hx hb dX11_isUnder_11 (by decide) (fun c_3 => ?_) (fun c_3 => ?_)
      · refine lv_iload_n hx hb dX11_isUnder_19 rfl (lv_at hl 1 rfl) ?_
        refine lv_iconst (v := 2) hx hb dX11_isUnder_20 (by decide) ?_
        refine lv_icmp_ne (tgt := 33) hx hb dX11_isUnder_21 (by decide) (fun c_4 => ?_) (fun c_4 => ?_)
        · refine lv_iconst (v := 0) hx hb dX11_isUnder_33 (by decide) ?_
          exact re_z hf hr hlk hw (rfl) (by simp only [f_X11_isUnder, if_neg c_1, if_neg c_2, if_neg c_3, if_neg c_4]) (rfl) dX11_isUnder_34
        · refine lv_iload_n hx hb dX11_isUnder_24 rfl (lv_at hl 0 rfl) ?_
          refine lv_iconst (v := 4) hx hb dX11_isUnder_25 (by decide) ?_
          refine lv_icmp_ne (tgt := 33) hx hb dX11_isUnder_26 (by decide) (fun c_5 => ?_) (fun c_5 => ?_)
          · refine lv_iconst (v := 0) hx hb dX11_isUnder_33 (by decide) ?_
            exact re_z hf hr hlk hw (rfl) (by simp only [f_X11_isUnder, if_neg c_1, if_neg c_2, if_neg c_3, if_pos c_4, if_neg c_5]) (rfl) dX11_isUnder_34
          · refine lv_iconst (v := 1) hx hb dX11_isUnder_29 (by decide) ?_
            refine lv_goto (tgt := 34) hx hb dX11_isUnder_30 (by decide) ?_
            exact re_z hf hr hlk hw (rfl) (by simp only [f_X11_isUnder, if_neg c_1, if_neg c_2, if_neg c_3, if_pos c_4, if_pos c_5]) (rfl) dX11_isUnder_34
      · refine lv_iload_n hx hb dX11_isUnder_14 rfl (lv_at hl 0 rfl) ?_
        refine lv_iconst (v := 3) hx hb dX11_isUnder_15 (by decide) ?_
        refine lv_icmp_eq (tgt := 29) hx hb dX11_isUnder_16 (by decide) (fun c_6 => ?_) (fun c_6 => ?_)
        · refine lv_iconst (v := 1) hx hb dX11_isUnder_29 (by decide) ?_
          refine lv_goto (tgt := 34) hx hb dX11_isUnder_30 (by decide) ?_
          exact re_z hf hr hlk hw (rfl) (by simp only [f_X11_isUnder, if_neg c_1, if_neg c_2, if_pos c_3, if_pos c_6]) (rfl) dX11_isUnder_34
        · refine lv_iload_n hx hb dX11_isUnder_19 rfl (lv_at hl 1 rfl) ?_
          refine lv_iconst (v := 2) hx hb dX11_isUnder_20 (by decide) ?_
          refine lv_icmp_ne (tgt := 33) hx hb dX11_isUnder_21 (by decide) (fun c_7 => ?_) (fun c_7 => ?_)
          · refine lv_iconst (v := 0) hx hb dX11_isUnder_33 (by decide) ?_
            exact re_z hf hr hlk hw (rfl) (by simp only [f_X11_isUnder, if_neg c_1, if_neg c_2, if_pos c_3, if_neg c_6, if_neg c_7]) (rfl) dX11_isUnder_34
          · refine lv_iload_n hx hb dX11_isUnder_24 rfl (lv_at hl 0 rfl) ?_
            refine lv_iconst (v := 4) hx hb dX11_isUnder_25 (by decide) ?_
            refine lv_icmp_ne (tgt := 33) hx hb dX11_isUnder_26 (by decide) (fun c_8 => ?_) (fun c_8 => ?_)
            · refine lv_iconst (v := 0) hx hb dX11_isUnder_33 (by decide) ?_
              exact re_z hf hr hlk hw (rfl) (by simp only [f_X11_isUnder, if_neg c_1, if_neg c_2, if_pos c_3, if_neg c_6, if_pos c_7, if_neg c_8]) (rfl) dX11_isUnder_34
            · refine lv_iconst (v := 1) hx hb dX11_isUnder_29 (by decide) ?_
              refine lv_goto (tgt := 34) hx hb dX11_isUnder_30 (by decide) ?_
              exact re_z hf hr hlk hw (rfl) (by simp only [f_X11_isUnder, if_neg c_1, if_neg c_2, if_pos c_3, if_neg c_6, if_pos c_7, if_pos c_8]) (rfl) dX11_isUnder_34
theorem hdS_X11_isUnder : yX11_isUnder.cls ≠ "java/lang/invoke/MethodHandle" ∧ yX11_isUnder.cls ≠ "java/lang/invoke/VarHandle" ∧ (parseMethodDescriptor yX11_isUnder.desc).map (fun d => d.parameters.length) = some 2 := by decide +kernel
def f_X11_taken (cnt : Nat) (kinds : Nat → Int32) (hds : Nat → Int32) (hdo : Nat → Int32) (shelf : Int32) (as_ : Int32) : Int32 := if (nO shelf 0 3) = 0 then (-1) else (if (nO as_ 0 5) = 0 then (if (nO as_ 10 13) = 0 then (-1) else (if 0 ≤ (hoF cnt hds hdo (ix shelf)) then (if (hoF cnt hds hdo (ix shelf)) = 0 then (if 10 ≤ as_ then (-13) else (if (f_X11_isUnder (kinds (ix (hdo (ix shelf)))) as_) = 0 then (-13) else (hdo (ix shelf)))) else (if (hoF cnt hds hdo (ix shelf)) = as_ then (hdo (ix shelf)) else (-13))) else (-11))) else (if 0 ≤ (hoF cnt hds hdo (ix shelf)) then (if (hoF cnt hds hdo (ix shelf)) = 0 then (if 10 ≤ as_ then (-13) else (if (f_X11_isUnder (kinds (ix (hdo (ix shelf)))) as_) = 0 then (-13) else (hdo (ix shelf)))) else (if (hoF cnt hds hdo (ix shelf)) = as_ then (hdo (ix shelf)) else (-13))) else (-11)))
abbrev rmX11_taken : Room := { frames := 3, cells := 0, slots := 0, locals := 64 }
set_option maxHeartbeats 4000000 in
set_option maxRecDepth 100000 in
theorem c_X11_taken (l : Launch) (g : GG) (oh : Nat) (os : Nat) (ok : Nat) (ol : Nat) (ord : Nat) (odd : Nat) (otp : Nat) (olt : Nat) (orw : Nat) (oso : Nat) (osz : Nat) (oit : Nat) (oho : Nat) (ohe : Nat) (otr : Nat) (stp : Nat) (laws : Nat → Int32) (z : Int32) (cnt : Nat) (fogs : Nat → Int32) (arms : Nat → Int32) (kinds : Nat → Int32) (faiths : Nat → Int32) (places : Nat → Int32) (moved : Nat → Int32) (isk : Int32) (tpd : Nat) (oat : Int32) (obg : Int32) (otk : Int32) (ovl : Int32) (rmn : Nat) (tcd : Nat) (own_ : Int32) (opt : Int32) (hds : Nat → Int32) (hdo : Nat → Int32) (shelf : Int32) (as_ : Int32) (hc8 : cnt ≤ 8) : mtR l g yX11_taken wsX11_taken rmX11_taken [.ref oh, .int shelf, .int as_] [cob oh 11 [.ref os, .ref ok, .ref ol, .ref ord, .int isk, .ref odd, .ref otp, .int (nI tpd), .ref olt, .int oat, .int obg, .int otk, .int ovl, .ref orw, .int (nI rmn), .ref oso, .ref osz, .ref oit, .ref oho, .ref ohe, .ref otr, .int (nI tcd), .int own_, .int opt], cin g os 51 (mR stp laws z cnt fogs arms kinds faiths places moved), cin g oho 4 hds, cin g ohe 4 hdo] (fun rv W => rv = (some (.int (f_X11_taken cnt kinds hds hdo shelf as_))) ∧ W = [cob oh 11 [.ref os, .ref ok, .ref ol, .ref ord, .int isk, .ref odd, .ref otp, .int (nI tpd), .ref olt, .int oat, .int obg, .int otk, .int ovl, .ref orw, .int (nI rmn), .ref oso, .ref osz, .ref oit, .ref oho, .ref ohe, .ref otr, .int (nI tcd), .int own_, .int opt], cin g os 51 (mR stp laws z cnt fogs arms kinds faiths places moved), cin g oho 4 hds, cin g ohe 4 hdo]) := by
  refine mtR.of (cc := cX11_taken) (nL := 5) (ret := (some .int)) (own := RX11) (by decide +kernel) rfl rfl (Nat.le_of_ble_eq_true rfl) (fun p e s m below meth c hf hr hlk _ hk hst hw ls hl => ?_)
  have hx := hf.1
  have hb := hf.2.1
  have hts := hf.2.2.2.2
  have hl : lv_has ls 5 [(0, .ref oh), (1, .int shelf), (2, .int as_)] := hl
  have hinX11 : ∀ w ∈ u_ws RX11 TX11 24, w ∈ wsX11_taken := fun w h => List.mem_cons_of_mem _ (List.mem_append_right _ h)
  have w_0 : Cond.fieldLink RX11 47 "LightManModel" "heldOne" "[I" ∈ wsX11_taken := List.mem_of_getElem? (i := 1) rfl
  refine lv_iload_n hx hb dX11_taken_0 rfl (lv_at hl 1 rfl) ?_
  refine mcS hf hk hst hw (c_X11_isSheet l g shelf) (va_cwS 1 hts gX11_taken_X11_isSheet rfl rfl rfl hdS_X11_isSheet ⟨Nat.le_of_ble_eq_true rfl, Nat.le_of_ble_eq_true rfl⟩) [] rfl rfl rfl hl.1 rfl (Nat.le_of_ble_eq_true rfl) dX11_taken_1 ⟨Nat.zero_le _, Nat.zero_le _⟩ (W' := [cob oh 11 [.ref os, .ref ok, .ref ol, .ref ord, .int isk, .ref odd, .ref otp, .int (nI tpd), .ref olt, .int oat, .int obg, .int otk, .int ovl, .ref orw, .int (nI rmn), .ref oso, .ref osz, .ref oit, .ref oho, .ref ohe, .ref otr, .int (nI tcd), .int own_, .int opt], cin g os 51 (mR stp laws z cnt fogs arms kinds faiths places moved), cin g oho 4 hds, cin g ohe 4 hdo]) rfl (fun H locs hw => ?_)
  refine lv_if_eq (tgt := 27) hx hb dX11_taken_4 (by decide) (fun c_1 => ?_) (fun c_1 => ?_)
  · refine lv_iconst (v := (-1)) hx hb dX11_taken_27 (by decide) ?_
    exact rE_i hf hr hlk hw ⟨congrArg some (by simp only [f_X11_taken, if_pos c_1]), rfl⟩ (show ([oh, os, oho, ohe] : List Nat) = [oh, os, oho, ohe] from rfl) dX11_taken_28
  · have hs := out_n (N := 3) (by decide) (nO_1 c_1)
    have hs2 := hs.2
    refine lv_iload_n hx hb dX11_taken_7 rfl (lv_at hl 2 rfl) ?_
    refine lv_iconst (v := 0) hx hb dX11_taken_8 (by decide) ?_
    refine lv_iconst (v := 5) hx hb dX11_taken_9 (by decide) ?_
    refine mcS hf hk hst hw (c_X11_in1 l g as_ 0 5) (va_cwS 3 hts gX11_taken_X11_in1 rfl rfl rfl hdS_X11_in1 ⟨Nat.le_of_ble_eq_true rfl, Nat.le_of_ble_eq_true rfl⟩) [] rfl rfl rfl hl.1 rfl (Nat.le_of_ble_eq_true rfl) dX11_taken_10 ⟨Nat.zero_le _, Nat.zero_le _⟩ (W' := [cob oh 11 [.ref os, .ref ok, .ref ol, .ref ord, .int isk, .ref odd, .ref otp, .int (nI tpd), .ref olt, .int oat, .int obg, .int otk, .int ovl, .ref orw, .int (nI rmn), .ref oso, .ref osz, .ref oit, .ref oho, .ref ohe, .ref otr, .int (nI tcd), .int own_, .int opt], cin g os 51 (mR stp laws z cnt fogs arms kinds faiths places moved), cin g oho 4 hds, cin g ohe 4 hdo]) rfl (fun H locs hw => ?_)
    refine lv_if_ne (tgt := 29) hx hb dX11_taken_13 (by decide) (fun c_2 => ?_) (fun c_2 => ?_)
    · refine lv_aload_n hx hb dX11_taken_29 rfl (lv_at hl 0 rfl) ?_
      refine lv_iload_n hx hb dX11_taken_30 rfl (lv_at hl 1 rfl) ?_
      refine lv_tope (y := nI (ix shelf)) hs.1 ?_
      refine mcV hf hk hst hw (c_X11_heldOn l g oh os ok ol ord odd otp olt orw oso osz oit oho ohe otr stp laws z cnt fogs arms kinds faiths places moved isk tpd oat obg otk ovl rmn tcd own_ opt hds hdo (ix shelf) (by omega) (by omega)) (cwV 1 hts gX11_taken_X11_heldOn rfl rfl rfl hdV_X11_heldOn ⟨Nat.le_of_ble_eq_true rfl, Nat.le_of_ble_eq_true rfl⟩) [0, 1, 2, 3] rfl rfl 0 rfl rfl rfl hl.1 rfl (Nat.le_of_ble_eq_true rfl) dX11_taken_31 ⟨Nat.zero_le _, Nat.zero_le _⟩ (W' := [cob oh 11 [.ref os, .ref ok, .ref ol, .ref ord, .int isk, .ref odd, .ref otp, .int (nI tpd), .ref olt, .int oat, .int obg, .int otk, .int ovl, .ref orw, .int (nI rmn), .ref oso, .ref osz, .ref oit, .ref oho, .ref ohe, .ref otr, .int (nI tcd), .int own_, .int opt], cin g os 51 (mR stp laws z cnt fogs arms kinds faiths places moved), cin g oho 4 hds, cin g ohe 4 hdo]) rfl (fun H locs hw => ?_)
      refine lv_istore_n (lv' := [(3, .int (hoF cnt hds hdo (ix shelf))), (0, .ref oh), (1, .int shelf), (2, .int as_)]) hx hb dX11_taken_34 rfl hl (by decide) rfl (fun ls hl => ?_)
      refine lv_iload_n hx hb dX11_taken_35 rfl (lv_at hl 0 rfl) ?_
      refine lv_if_ge (tgt := 42) hx hb dX11_taken_36 (by decide) (fun c_3 => ?_) (fun c_3 => ?_)
      · refine lv_iload_n hx hb dX11_taken_42 rfl (lv_at hl 0 rfl) ?_
        refine lv_if_ne (tgt := 78) hx hb dX11_taken_43 (by decide) (fun c_4 => ?_) (fun c_4 => ?_)
        · refine lv_iload_n hx hb dX11_taken_78 rfl (lv_at hl 0 rfl) ?_
          refine lv_iload_n hx hb dX11_taken_79 rfl (lv_at hl 3 rfl) ?_
          refine lv_icmp_ne (tgt := 87) hx hb dX11_taken_80 (by decide) (fun c_5 => ?_) (fun c_5 => ?_)
          · refine lv_iconst (v := 0) hx hb dX11_taken_87 (by decide) ?_
            refine lv_istore (lv' := [(4, .int 0), (3, .int (hoF cnt hds hdo (ix shelf))), (0, .ref oh), (1, .int shelf), (2, .int as_)]) hx hb dX11_taken_88 hl (by decide) rfl (fun ls hl => ?_)
            refine lv_iload hx hb dX11_taken_90 (lv_at hl 0 rfl) ?_
            refine lv_if_eq (tgt := 104) hx hb dX11_taken_92 (by decide) (fun _ => ?_) (fun q => absurd (by decide) q)
            refine lv_bipush (v := (-13)) hx hb dX11_taken_104 (by decide) ?_
            exact rE_i hf hr hlk hw ⟨congrArg some (by simp only [f_X11_taken, if_neg c_1, if_neg c_2, if_pos c_3, if_neg c_4, if_neg c_5]), rfl⟩ (show ([oh, os, oho, ohe] : List Nat) = [oh, os, oho, ohe] from rfl) dX11_taken_106
          · refine lv_iconst (v := 1) hx hb dX11_taken_83 (by decide) ?_
            refine lv_goto (tgt := 88) hx hb dX11_taken_84 (by decide) ?_
            refine lv_istore (lv' := [(4, .int 1), (3, .int (hoF cnt hds hdo (ix shelf))), (0, .ref oh), (1, .int shelf), (2, .int as_)]) hx hb dX11_taken_88 hl (by decide) rfl (fun ls hl => ?_)
            refine lv_iload hx hb dX11_taken_90 (lv_at hl 0 rfl) ?_
            refine lv_if_eq (tgt := 104) hx hb dX11_taken_92 (by decide) (fun q => absurd q (by decide)) (fun _ => ?_)
            refine lv_aload_n hx hb dX11_taken_95 rfl (lv_at hl 2 rfl) ?_
            refine rg hf hk hw hinX11 0 rfl rfl 19 (by decide) w_0 rfl dX11_taken_96 ?_
            refine lv_iload_n hx hb dX11_taken_99 rfl (lv_at hl 3 rfl) ?_
            refine lv_tope (y := nI (ix shelf)) hs.1 ?_
            refine rij hf hk hw 3 rfl (j := ix shelf) (vp_in_nI (by omega) (by omega)) (nI_clamp (by omega)) dX11_taken_100 ?_
            refine lv_goto (tgt := 106) hx hb dX11_taken_101 (by decide) ?_
            exact rE_i hf hr hlk hw ⟨congrArg some (by simp only [f_X11_taken, if_neg c_1, if_neg c_2, if_pos c_3, if_neg c_4, if_pos c_5]), rfl⟩ (show ([oh, os, oho, ohe] : List Nat) = [oh, os, oho, ohe] from rfl) dX11_taken_106
        · have hg := ho_ok hc8 c_4
          have hg2 := hg.2
          refine lv_iload_n hx hb dX11_taken_46 rfl (lv_at hl 3 rfl) ?_
          refine lv_bipush (v := 10) hx hb dX11_taken_47 (by decide) ?_
          refine lv_icmp_ge (tgt := 74) hx hb dX11_taken_49 (by decide) (fun c_6 => ?_) (fun c_6 => ?_)
          · refine lv_iconst (v := 0) hx hb dX11_taken_74 (by decide) ?_
            refine lv_goto (tgt := 88) hx hb dX11_taken_75 (by decide) ?_
            refine lv_istore (lv' := [(4, .int 0), (3, .int (hoF cnt hds hdo (ix shelf))), (0, .ref oh), (1, .int shelf), (2, .int as_)]) hx hb dX11_taken_88 hl (by decide) rfl (fun ls hl => ?_)
            refine lv_iload hx hb dX11_taken_90 (lv_at hl 0 rfl) ?_
            refine lv_if_eq (tgt := 104) hx hb dX11_taken_92 (by decide) (fun _ => ?_) (fun q => absurd (by decide) q)
            refine lv_bipush (v := (-13)) hx hb dX11_taken_104 (by decide) ?_
            exact rE_i hf hr hlk hw ⟨congrArg some (by simp only [f_X11_taken, if_neg c_1, if_neg c_2, if_pos c_3, if_pos c_4, if_pos c_6]), rfl⟩ (show ([oh, os, oho, ohe] : List Nat) = [oh, os, oho, ohe] from rfl) dX11_taken_106
          · refine lv_aload_n hx hb dX11_taken_52 rfl (lv_at hl 1 rfl) ?_
            refine lv_aload_n hx hb dX11_taken_53 rfl (lv_at hl 1 rfl) ?_
            refine rg hf hk hw hinX11 0 rfl rfl 19 (by decide) w_0 rfl dX11_taken_54 ?_
            refine lv_iload_n hx hb dX11_taken_57 rfl (lv_at hl 2 rfl) ?_
            refine lv_tope (y := nI (ix shelf)) hs.1 ?_
            refine rij hf hk hw 3 rfl (j := ix shelf) (vp_in_nI (by omega) (by omega)) (nI_clamp (by omega)) dX11_taken_58 ?_
            refine lv_tope (y := nI (ix (hdo (ix shelf)))) (hg.1) ?_
            refine lv_iconst (v := 0) hx hb dX11_taken_59 (by decide) ?_
            refine mcV hf hk hst hw (c_X11_get0 l g oh os ok ol ord odd otp olt orw oso osz oit oho ohe otr stp laws z cnt fogs arms kinds faiths places moved isk tpd oat obg otk ovl rmn tcd own_ opt (ix (hdo (ix shelf))) (by omega)) (cwV 2 hts gX11_taken_X11_get rfl rfl rfl hdV_X11_get ⟨Nat.le_of_ble_eq_true rfl, Nat.le_of_ble_eq_true rfl⟩) [0, 1] rfl rfl 0 rfl rfl rfl hl.1 rfl (Nat.le_of_ble_eq_true rfl) dX11_taken_60 ⟨Nat.zero_le _, Nat.zero_le _⟩ (W' := [cob oh 11 [.ref os, .ref ok, .ref ol, .ref ord, .int isk, .ref odd, .ref otp, .int (nI tpd), .ref olt, .int oat, .int obg, .int otk, .int ovl, .ref orw, .int (nI rmn), .ref oso, .ref osz, .ref oit, .ref oho, .ref ohe, .ref otr, .int (nI tcd), .int own_, .int opt], cin g os 51 (mR stp laws z cnt fogs arms kinds faiths places moved), cin g oho 4 hds, cin g ohe 4 hdo]) rfl (fun H locs hw => ?_)
            refine lv_iload_n hx hb dX11_taken_63 rfl (lv_at hl 3 rfl) ?_
            refine mcS hf hk hst hw (c_X11_isUnder l g (kinds (ix (hdo (ix shelf)))) as_) (va_cwS 2 hts gX11_taken_X11_isUnder rfl rfl rfl hdS_X11_isUnder ⟨Nat.le_of_ble_eq_true rfl, Nat.le_of_ble_eq_true rfl⟩) [] rfl rfl rfl hl.1 rfl (Nat.le_of_ble_eq_true rfl) dX11_taken_64 ⟨Nat.zero_le _, Nat.zero_le _⟩ (W' := [cob oh 11 [.ref os, .ref ok, .ref ol, .ref ord, .int isk, .ref odd, .ref otp, .int (nI tpd), .ref olt, .int oat, .int obg, .int otk, .int ovl, .ref orw, .int (nI rmn), .ref oso, .ref osz, .ref oit, .ref oho, .ref ohe, .ref otr, .int (nI tcd), .int own_, .int opt], cin g os 51 (mR stp laws z cnt fogs arms kinds faiths places moved), cin g oho 4 hds, cin g ohe 4 hdo]) rfl (fun H locs hw => ?_)
            refine lv_if_eq (tgt := 74) hx hb dX11_taken_67 (by decide) (fun c_7 => ?_) (fun c_7 => ?_)
            · refine lv_iconst (v := 0) hx hb dX11_taken_74 (by decide) ?_
              refine lv_goto (tgt := 88) hx hb dX11_taken_75 (by decide) ?_
              refine lv_istore (lv' := [(4, .int 0), (3, .int (hoF cnt hds hdo (ix shelf))), (0, .ref oh), (1, .int shelf), (2, .int as_)]) hx hb dX11_taken_88 hl (by decide) rfl (fun ls hl => ?_)
              refine lv_iload hx hb dX11_taken_90 (lv_at hl 0 rfl) ?_
              refine lv_if_eq (tgt := 104) hx hb dX11_taken_92 (by decide) (fun _ => ?_) (fun q => absurd (by decide) q)
              refine lv_bipush (v := (-13)) hx hb dX11_taken_104 (by decide) ?_
              exact rE_i hf hr hlk hw ⟨congrArg some (by simp only [f_X11_taken, if_neg c_1, if_neg c_2, if_pos c_3, if_pos c_4, if_neg c_6, if_pos c_7]), rfl⟩ (show ([oh, os, oho, ohe] : List Nat) = [oh, os, oho, ohe] from rfl) dX11_taken_106
            · refine lv_iconst (v := 1) hx hb dX11_taken_70 (by decide) ?_
              refine lv_goto (tgt := 88) hx hb dX11_taken_71 (by decide) ?_
              refine lv_istore (lv' := [(4, .int 1), (3, .int (hoF cnt hds hdo (ix shelf))), (0, .ref oh), (1, .int shelf), (2, .int as_)]) hx hb dX11_taken_88 hl (by decide) rfl (fun ls hl => ?_)
              refine lv_iload hx hb dX11_taken_90 (lv_at hl 0 rfl) ?_
              refine lv_if_eq (tgt := 104) hx hb dX11_taken_92 (by decide) (fun q => absurd q (by decide)) (fun _ => ?_)
              refine lv_aload_n hx hb dX11_taken_95 rfl (lv_at hl 2 rfl) ?_
              refine rg hf hk hw hinX11 0 rfl rfl 19 (by decide) w_0 rfl dX11_taken_96 ?_
              refine lv_iload_n hx hb dX11_taken_99 rfl (lv_at hl 3 rfl) ?_
              refine lv_tope (y := nI (ix shelf)) hs.1 ?_
              refine rij hf hk hw 3 rfl (j := ix shelf) (vp_in_nI (by omega) (by omega)) (nI_clamp (by omega)) dX11_taken_100 ?_
              refine lv_goto (tgt := 106) hx hb dX11_taken_101 (by decide) ?_
              exact rE_i hf hr hlk hw ⟨congrArg some (by simp only [f_X11_taken, if_neg c_1, if_neg c_2, if_pos c_3, if_pos c_4, if_neg c_6, if_neg c_7]), rfl⟩ (show ([oh, os, oho, ohe] : List Nat) = [oh, os, oho, ohe] from rfl) dX11_taken_106
      · refine lv_bipush (v := (-11)) hx hb dX11_taken_39 (by decide) ?_
        exact rE_i hf hr hlk hw ⟨congrArg some (by simp only [f_X11_taken, if_neg c_1, if_neg c_2, if_neg c_3]), rfl⟩ (show ([oh, os, oho, ohe] : List Nat) = [oh, os, oho, ohe] from rfl) dX11_taken_41
    · refine lv_iload_n hx hb dX11_taken_16 rfl (lv_at hl 2 rfl) ?_
      refine lv_bipush (v := 10) hx hb dX11_taken_17 (by decide) ?_
      refine lv_bipush (v := 13) hx hb dX11_taken_19 (by decide) ?_
      refine mcS hf hk hst hw (c_X11_in1 l g as_ 10 13) (va_cwS 3 hts gX11_taken_X11_in1 rfl rfl rfl hdS_X11_in1 ⟨Nat.le_of_ble_eq_true rfl, Nat.le_of_ble_eq_true rfl⟩) [] rfl rfl rfl hl.1 rfl (Nat.le_of_ble_eq_true rfl) dX11_taken_21 ⟨Nat.zero_le _, Nat.zero_le _⟩ (W' := [cob oh 11 [.ref os, .ref ok, .ref ol, .ref ord, .int isk, .ref odd, .ref otp, .int (nI tpd), .ref olt, .int oat, .int obg, .int otk, .int ovl, .ref orw, .int (nI rmn), .ref oso, .ref osz, .ref oit, .ref oho, .ref ohe, .ref otr, .int (nI tcd), .int own_, .int opt], cin g os 51 (mR stp laws z cnt fogs arms kinds faiths places moved), cin g oho 4 hds, cin g ohe 4 hdo]) rfl (fun H locs hw => ?_)
      refine lv_if_ne (tgt := 29) hx hb dX11_taken_24 (by decide) (fun c_8 => ?_) (fun c_8 => ?_)
      · refine lv_aload_n hx hb dX11_taken_29 rfl (lv_at hl 0 rfl) ?_
        refine lv_iload_n hx hb dX11_taken_30 rfl (lv_at hl 1 rfl) ?_
        refine lv_tope (y := nI (ix shelf)) hs.1 ?_
        refine mcV hf hk hst hw (c_X11_heldOn l g oh os ok ol ord odd otp olt orw oso osz oit oho ohe otr stp laws z cnt fogs arms kinds faiths places moved isk tpd oat obg otk ovl rmn tcd own_ opt hds hdo (ix shelf) (by omega) (by omega)) (cwV 1 hts gX11_taken_X11_heldOn rfl rfl rfl hdV_X11_heldOn ⟨Nat.le_of_ble_eq_true rfl, Nat.le_of_ble_eq_true rfl⟩) [0, 1, 2, 3] rfl rfl 0 rfl rfl rfl hl.1 rfl (Nat.le_of_ble_eq_true rfl) dX11_taken_31 ⟨Nat.zero_le _, Nat.zero_le _⟩ (W' := [cob oh 11 [.ref os, .ref ok, .ref ol, .ref ord, .int isk, .ref odd, .ref otp, .int (nI tpd), .ref olt, .int oat, .int obg, .int otk, .int ovl, .ref orw, .int (nI rmn), .ref oso, .ref osz, .ref oit, .ref oho, .ref ohe, .ref otr, .int (nI tcd), .int own_, .int opt], cin g os 51 (mR stp laws z cnt fogs arms kinds faiths places moved), cin g oho 4 hds, cin g ohe 4 hdo]) rfl (fun H locs hw => ?_)
        refine lv_istore_n (lv' := [(3, .int (hoF cnt hds hdo (ix shelf))), (0, .ref oh), (1, .int shelf), (2, .int as_)]) hx hb dX11_taken_34 rfl hl (by decide) rfl (fun ls hl => ?_)
        refine lv_iload_n hx hb dX11_taken_35 rfl (lv_at hl 0 rfl) ?_
        refine lv_if_ge (tgt := 42) hx hb dX11_taken_36 (by decide) (fun c_9 => ?_) (fun c_9 => ?_)
        · refine lv_iload_n hx hb dX11_taken_42 rfl (lv_at hl 0 rfl) ?_
          refine lv_if_ne (tgt := 78) hx hb dX11_taken_43 (by decide) (fun c_10 => ?_) (fun c_10 => ?_)
          · refine lv_iload_n hx hb dX11_taken_78 rfl (lv_at hl 0 rfl) ?_
            refine lv_iload_n hx hb dX11_taken_79 rfl (lv_at hl 3 rfl) ?_
            refine lv_icmp_ne (tgt := 87) hx hb dX11_taken_80 (by decide) (fun c_11 => ?_) (fun c_11 => ?_)
            · refine lv_iconst (v := 0) hx hb dX11_taken_87 (by decide) ?_
              refine lv_istore (lv' := [(4, .int 0), (3, .int (hoF cnt hds hdo (ix shelf))), (0, .ref oh), (1, .int shelf), (2, .int as_)]) hx hb dX11_taken_88 hl (by decide) rfl (fun ls hl => ?_)
              refine lv_iload hx hb dX11_taken_90 (lv_at hl 0 rfl) ?_
              refine lv_if_eq (tgt := 104) hx hb dX11_taken_92 (by decide) (fun _ => ?_) (fun q => absurd (by decide) q)
              refine lv_bipush (v := (-13)) hx hb dX11_taken_104 (by decide) ?_
              exact rE_i hf hr hlk hw ⟨congrArg some (by simp only [f_X11_taken, if_neg c_1, if_pos c_2, if_neg c_8, if_pos c_9, if_neg c_10, if_neg c_11]), rfl⟩ (show ([oh, os, oho, ohe] : List Nat) = [oh, os, oho, ohe] from rfl) dX11_taken_106
            · refine lv_iconst (v := 1) hx hb dX11_taken_83 (by decide) ?_
              refine lv_goto (tgt := 88) hx hb dX11_taken_84 (by decide) ?_
              refine lv_istore (lv' := [(4, .int 1), (3, .int (hoF cnt hds hdo (ix shelf))), (0, .ref oh), (1, .int shelf), (2, .int as_)]) hx hb dX11_taken_88 hl (by decide) rfl (fun ls hl => ?_)
              refine lv_iload hx hb dX11_taken_90 (lv_at hl 0 rfl) ?_
              refine lv_if_eq (tgt := 104) hx hb dX11_taken_92 (by decide) (fun q => absurd q (by decide)) (fun _ => ?_)
              refine lv_aload_n hx hb dX11_taken_95 rfl (lv_at hl 2 rfl) ?_
              refine rg hf hk hw hinX11 0 rfl rfl 19 (by decide) w_0 rfl dX11_taken_96 ?_
              refine lv_iload_n hx hb dX11_taken_99 rfl (lv_at hl 3 rfl) ?_
              refine lv_tope (y := nI (ix shelf)) hs.1 ?_
              refine rij hf hk hw 3 rfl (j := ix shelf) (vp_in_nI (by omega) (by omega)) (nI_clamp (by omega)) dX11_taken_100 ?_
              refine lv_goto (tgt := 106) hx hb dX11_taken_101 (by decide) ?_
              exact rE_i hf hr hlk hw ⟨congrArg some (by simp only [f_X11_taken, if_neg c_1, if_pos c_2, if_neg c_8, if_pos c_9, if_neg c_10, if_pos c_11]), rfl⟩ (show ([oh, os, oho, ohe] : List Nat) = [oh, os, oho, ohe] from rfl) dX11_taken_106
          · have hg := ho_ok hc8 c_10
            have hg2 := hg.2
            refine lv_iload_n hx hb dX11_taken_46 rfl (lv_at hl 3 rfl) ?_
            refine lv_bipush (v := 10) hx hb dX11_taken_47 (by decide) ?_
            refine lv_icmp_ge (tgt := 74) hx hb dX11_taken_49 (by decide) (fun c_12 => ?_) (fun c_12 => ?_)
            · refine lv_iconst (v := 0) hx hb dX11_taken_74 (by decide) ?_
              refine lv_goto (tgt := 88) hx hb dX11_taken_75 (by decide) ?_
              refine lv_istore (lv' := [(4, .int 0), (3, .int (hoF cnt hds hdo (ix shelf))), (0, .ref oh), (1, .int shelf), (2, .int as_)]) hx hb dX11_taken_88 hl (by decide) rfl (fun ls hl => ?_)
              refine lv_iload hx hb dX11_taken_90 (lv_at hl 0 rfl) ?_
              refine lv_if_eq (tgt := 104) hx hb dX11_taken_92 (by decide) (fun _ => ?_) (fun q => absurd (by decide) q)
              refine lv_bipush (v := (-13)) hx hb dX11_taken_104 (by decide) ?_
              exact rE_i hf hr hlk hw ⟨congrArg some (by simp only [f_X11_taken, if_neg c_1, if_pos c_2, if_neg c_8, if_pos c_9, if_pos c_10, if_pos c_12]), rfl⟩ (show ([oh, os, oho, ohe] : List Nat) = [oh, os, oho, ohe] from rfl) dX11_taken_106
            · refine lv_aload_n hx hb dX11_taken_52 rfl (lv_at hl 1 rfl) ?_
              refine lv_aload_n hx hb dX11_taken_53 rfl (lv_at hl 1 rfl) ?_
              refine rg hf hk hw hinX11 0 rfl rfl 19 (by decide) w_0 rfl dX11_taken_54 ?_
              refine lv_iload_n hx hb dX11_taken_57 rfl (lv_at hl 2 rfl) ?_
              refine lv_tope (y := nI (ix shelf)) hs.1 ?_
              refine rij hf hk hw 3 rfl (j := ix shelf) (vp_in_nI (by omega) (by omega)) (nI_clamp (by omega)) dX11_taken_58 ?_
              refine lv_tope (y := nI (ix (hdo (ix shelf)))) (hg.1) ?_
              refine lv_iconst (v := 0) hx hb dX11_taken_59 (by decide) ?_
              refine mcV hf hk hst hw (c_X11_get0 l g oh os ok ol ord odd otp olt orw oso osz oit oho ohe otr stp laws z cnt fogs arms kinds faiths places moved isk tpd oat obg otk ovl rmn tcd own_ opt (ix (hdo (ix shelf))) (by omega)) (cwV 2 hts gX11_taken_X11_get rfl rfl rfl hdV_X11_get ⟨Nat.le_of_ble_eq_true rfl, Nat.le_of_ble_eq_true rfl⟩) [0, 1] rfl rfl 0 rfl rfl rfl hl.1 rfl (Nat.le_of_ble_eq_true rfl) dX11_taken_60 ⟨Nat.zero_le _, Nat.zero_le _⟩ (W' := [cob oh 11 [.ref os, .ref ok, .ref ol, .ref ord, .int isk, .ref odd, .ref otp, .int (nI tpd), .ref olt, .int oat, .int obg, .int otk, .int ovl, .ref orw, .int (nI rmn), .ref oso, .ref osz, .ref oit, .ref oho, .ref ohe, .ref otr, .int (nI tcd), .int own_, .int opt], cin g os 51 (mR stp laws z cnt fogs arms kinds faiths places moved), cin g oho 4 hds, cin g ohe 4 hdo]) rfl (fun H locs hw => ?_)
              refine lv_iload_n hx hb dX11_taken_63 rfl (lv_at hl 3 rfl) ?_
              refine mcS hf hk hst hw (c_X11_isUnder l g (kinds (ix (hdo (ix shelf)))) as_) (va_cwS 2 hts gX11_taken_X11_isUnder rfl rfl rfl hdS_X11_isUnder ⟨Nat.le_of_ble_eq_true rfl, Nat.le_of_ble_eq_true rfl⟩) [] rfl rfl rfl hl.1 rfl (Nat.le_of_ble_eq_true rfl) dX11_taken_64 ⟨Nat.zero_le _, Nat.zero_le _⟩ (W' := [cob oh 11 [.ref os, .ref ok, .ref ol, .ref ord, .int isk, .ref odd, .ref otp, .int (nI tpd), .ref olt, .int oat, .int obg, .int otk, .int ovl, .ref orw, .int (nI rmn), .ref oso, .ref osz, .ref oit, .ref oho, .ref ohe, .ref otr, .int (nI tcd), .int own_, .int opt], cin g os 51 (mR stp laws z cnt fogs arms kinds faiths places moved), cin g oho 4 hds, cin g ohe 4 hdo]) rfl (fun H locs hw => ?_)
              refine lv_if_eq (tgt := 74) hx hb dX11_taken_67 (by decide) (fun c_13 => ?_) (fun c_13 => ?_)
              · refine lv_iconst (v := 0) hx hb dX11_taken_74 (by decide) ?_
                refine lv_goto (tgt := 88) hx hb dX11_taken_75 (by decide) ?_
                refine lv_istore (lv' := [(4, .int 0), (3, .int (hoF cnt hds hdo (ix shelf))), (0, .ref oh), (1, .int shelf), (2, .int as_)]) hx hb dX11_taken_88 hl (by decide) rfl (fun ls hl => ?_)
                refine lv_iload hx hb dX11_taken_90 (lv_at hl 0 rfl) ?_
                refine lv_if_eq (tgt := 104) hx hb dX11_taken_92 (by decide) (fun _ => ?_) (fun q => absurd (by decide) q)
                refine lv_bipush (v := (-13)) hx hb dX11_taken_104 (by decide) ?_
                exact rE_i hf hr hlk hw ⟨congrArg some (by simp only [f_X11_taken, if_neg c_1, if_pos c_2, if_neg c_8, if_pos c_9, if_pos c_10, if_neg c_12, if_pos c_13]), rfl⟩ (show ([oh, os, oho, ohe] : List Nat) = [oh, os, oho, ohe] from rfl) dX11_taken_106
              · refine lv_iconst (v := 1) hx hb dX11_taken_70 (by decide) ?_
                refine lv_goto (tgt := 88) hx hb dX11_taken_71 (by decide) ?_
                refine lv_istore (lv' := [(4, .int 1), (3, .int (hoF cnt hds hdo (ix shelf))), (0, .ref oh), (1, .int shelf), (2, .int as_)]) hx hb dX11_taken_88 hl (by decide) rfl (fun ls hl => ?_)
                refine lv_iload hx hb dX11_taken_90 (lv_at hl 0 rfl) ?_
                refine lv_if_eq (tgt := 104) hx hb dX11_taken_92 (by decide) (fun q => absurd q (by decide)) (fun _ => ?_)
                refine lv_aload_n hx hb dX11_taken_95 rfl (lv_at hl 2 rfl) ?_
                refine rg hf hk hw hinX11 0 rfl rfl 19 (by decide) w_0 rfl dX11_taken_96 ?_
                refine lv_iload_n hx hb dX11_taken_99 rfl (lv_at hl 3 rfl) ?_
                refine lv_tope (y := nI (ix shelf)) hs.1 ?_
                refine rij hf hk hw 3 rfl (j := ix shelf) (vp_in_nI (by omega) (by omega)) (nI_clamp (by omega)) dX11_taken_100 ?_
                refine lv_goto (tgt := 106) hx hb dX11_taken_101 (by decide) ?_
                exact rE_i hf hr hlk hw ⟨congrArg some (by simp only [f_X11_taken, if_neg c_1, if_pos c_2, if_neg c_8, if_pos c_9, if_pos c_10, if_neg c_12, if_neg c_13]), rfl⟩ (show ([oh, os, oho, ohe] : List Nat) = [oh, os, oho, ohe] from rfl) dX11_taken_106
        · refine lv_bipush (v := (-11)) hx hb dX11_taken_39 (by decide) ?_
          exact rE_i hf hr hlk hw ⟨congrArg some (by simp only [f_X11_taken, if_neg c_1, if_pos c_2, if_neg c_8, if_neg c_9]), rfl⟩ (show ([oh, os, oho, ohe] : List Nat) = [oh, os, oho, ohe] from rfl) dX11_taken_41
      · refine lv_iconst (v := (-1)) hx hb dX11_taken_27 (by decide) ?_
        exact rE_i hf hr hlk hw ⟨congrArg some (by simp only [f_X11_taken, if_neg c_1, if_pos c_2, if_pos c_8]), rfl⟩ (show ([oh, os, oho, ohe] : List Nat) = [oh, os, oho, ohe] from rfl) dX11_taken_28
