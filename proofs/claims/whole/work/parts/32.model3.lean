/-- all behind k steps: each as if alone -/
theorem stA_it {laws fogs arms kinds : Nat → Int32} {cnt st : Nat} {fa pl mo : Nat → Int32} {j : Nat} (hj : j < cnt) : ∀ k, (stA laws fogs arms kinds cnt st fa pl mo k).1 j = (itG laws fogs arms (kinds j) st (fa j) (pl j) (mo j) k).1 ∧ (stA laws fogs arms kinds cnt st fa pl mo k).2.1 j = (itG laws fogs arms (kinds j) st (fa j) (pl j) (mo j) k).2.1 ∧ (stA laws fogs arms kinds cnt st fa pl mo k).2.2 j = (itG laws fogs arms (kinds j) st (fa j) (pl j) (mo j) k).2.2
  | 0 => ⟨rfl, rfl, rfl⟩
  | k + 1 => by
    obtain ⟨h1, h2, h3⟩ := stA_it (laws := laws) (fogs := fogs) (arms := arms) (kinds := kinds) (st := st) (fa := fa) (pl := pl) (mo := mo) hj k
    refine ⟨?_, ?_, ?_⟩
    · show goF _ _ _ _ _ _ _ cnt j = n1F _ _ _ _ _ _
      unfold goF
      simp only [if_pos hj]
      rw [h1, h2]
    · show goP _ _ _ _ _ _ _ cnt j = n1P _ _ _ _ _ _ _ _ _
      unfold goP
      simp only [if_pos hj]
      rw [h1, h2]
    · show goM _ _ _ _ _ _ _ cnt j = n1M _ _ _ _ _ _
      unfold goM
      simp only [if_pos hj]
      rw [h2, h3]
theorem bc_or : ∀ n, n < 8 → ∀ v, v < 2 ^ n → bcF (nI v ||| (1 <<< (nI n &&& 31))) = bcF (nI v) + 1 := by decide +kernel
theorem bc_one (q : Nat → Int32) : ∀ n, n ≤ 8 → bcF (setTo q n) = oneTo q n
  | 0, _ => by show bcF (0 : Int32) = (0 : Int32); decide
  | n + 1, h => by
    have ih := bc_one q n (by omega)
    by_cases hq : q n = 0
    · show bcF (if q n = 0 then _ else _) = (if q n = 0 then _ else _)
      rw [if_pos hq, if_pos hq]; exact ih
    · show bcF (if q n = 0 then _ else _) = (if q n = 0 then _ else _)
      rw [if_neg hq, if_neg hq]
      obtain ⟨v, hv, e⟩ := setTo_n q n (by omega)
      rw [e] at ih ⊢
      rw [bc_or n (by omega) v hv, ih]
theorem psd {laws fogs arms kinds : Nat → Int32} {cnt st n : Nat} {fa pl mo : Nat → Int32} (hc : cnt ≤ 8) : bcF (setTo (thrs (stA laws fogs arms kinds cnt st fa pl mo n).2.1) cnt) = oneTo (thrN laws fogs arms st n kinds fa pl mo) cnt := by
  rw [bc_one _ _ hc]
  exact oneTo_c (fun j hj => by unfold thrs thrN; rw [(stA_it hj n).2.1])
/-- none for what is beyond 60 -/
def cbF (x : Int32) : Int32 := if x ≤ 60 then x else -3
theorem snR_k (q : Nat → Int32) : ∀ (m k : Nat), m + k = 61 → snR q m k ≤ 61 ∧ 0 ≤ snR q m k
  | 0, _, _ => ⟨by show (61 : Int32) ≤ 61; decide, by show (0 : Int32) ≤ 61; decide⟩
  | m + 1, k, h => by
    unfold snR
    split
    · exact snR_k q m (k + 1) (by omega)
    · exact ⟨nI_le (b := 61) (by omega) (by omega), nI_pos' (by omega)⟩
theorem n1E_1 {kd fog ar hum dr lo fa pl : Int32} : n1E kd fog ar hum dr lo fa pl = 1 ↔ n1D kd fog ar hum dr lo fa pl = 2 := by
  unfold n1E n1D dM vD
  split
  · split
    · split
      · exact ⟨fun h => absurd h (by decide), fun h => absurd h (by decide)⟩
      · exact ⟨fun _ => rfl, fun _ => rfl⟩
    · exact ⟨fun h => absurd h (by decide), fun h => absurd h (by decide)⟩
  · exact ⟨fun h => absurd h (by decide), fun h => absurd h (by decide)⟩
theorem n1E_2 {kd fog ar hum dr lo fa pl : Int32} : n1E kd fog ar hum dr lo fa pl = 2 ↔ n1D kd fog ar hum dr lo fa pl = 3 := by
  unfold n1E n1D dM vD
  split
  · split
    · split
      · exact ⟨fun h => absurd h (by decide), fun h => absurd h (by decide)⟩
      · exact ⟨fun h => absurd h (by decide), fun h => absurd h (by decide)⟩
    · exact ⟨fun _ => rfl, fun _ => rfl⟩
  · exact ⟨fun h => absurd h (by decide), fun h => absurd h (by decide)⟩
/-- one's deed in its (k+1)-th step, in the model's words -/
def itE (laws fogs arms : Nat → Int32) (kd : Int32) (st : Nat) (fa pl mo : Int32) : Nat → Int32 := fun k => n1E kd (fogs ((st + k) % 6)) (arms ((st + k) % 6)) (laws 0) (laws 1) (laws 2) (itG laws fogs arms kd st fa pl mo k).1 (itG laws fogs arms kd st fa pl mo k).2.1
theorem goE_it {laws fogs arms kinds : Nat → Int32} {cnt st : Nat} {fa pl mo dd : Nat → Int32} {j : Nat} (hj : j < cnt) (k : Nat) : goE laws fogs arms (st + k) kinds (stA laws fogs arms kinds cnt st fa pl mo k).1 (stA laws fogs arms kinds cnt st fa pl mo k).2.1 dd cnt j = itE laws fogs arms (kinds j) st (fa j) (pl j) (mo j) k := by
  unfold goE itE
  simp only [if_pos hj]
  rw [(stA_it hj k).1, (stA_it hj k).2.1]
theorem fsR_c {q q2 : Nat → Int32} {d d2 : Int32} (h : ∀ k, q k = d ↔ q2 k = d2) : ∀ m k, fsR q d m k = fsR q2 d2 m k
  | 0, _ => rfl
  | m + 1, k => by
    unfold fsR
    by_cases e : q k = d
    · rw [if_pos e, if_pos ((h k).mp e)]
    · rw [if_neg e, if_neg (fun x => e ((h k).mpr x)), fsR_c h m (k + 1)]
def f_X11_where (stp : Nat) (laws : Nat → Int32) (cnt : Nat) (fogs : Nat → Int32) (arms : Nat → Int32) (kinds : Nat → Int32) (faiths : Nat → Int32) (places : Nat → Int32) (moved : Nat → Int32) (goer : Int32) (n : Int32) : Int32 := if (f_X8_has cnt goer) = 0 then (-1) else (if (nO n 0 60) = 0 then (-1) else ((itG laws fogs arms (kinds (ix goer)) stp (faiths (ix goer)) (places (ix goer)) (moved (ix goer)) (ix n)).2.1))
abbrev rmX11_where : Room := { frames := 7, cells := 0, slots := 0, locals := 154 }
set_option maxHeartbeats 4000000 in
set_option maxRecDepth 100000 in
theorem c_X11_where (l : Launch) (g : GG) (oh : Nat) (os : Nat) (ok : Nat) (ol : Nat) (ord : Nat) (odd : Nat) (otp : Nat) (olt : Nat) (orw : Nat) (oso : Nat) (osz : Nat) (oit : Nat) (oho : Nat) (ohe : Nat) (otr : Nat) (stp : Nat) (laws : Nat → Int32) (z : Int32) (cnt : Nat) (fogs : Nat → Int32) (arms : Nat → Int32) (kinds : Nat → Int32) (faiths : Nat → Int32) (places : Nat → Int32) (moved : Nat → Int32) (isk : Int32) (tpd : Nat) (oat : Int32) (obg : Int32) (otk : Int32) (ovl : Int32) (rmn : Nat) (tcd : Nat) (own_ : Int32) (opt : Int32) (lr : Nat → Int32) (dd : Nat → Int32) (goer : Int32) (n : Int32) (hc8 : cnt ≤ 8) (hsp : stp < 2 ^ 29) (hpl : ∀ j, j < cnt → plOk (places j)) (hmo_ : ∀ j, j < cnt → moOk (moved j)) : mtR l g yX11_where wsX11_where rmX11_where [.ref oh, .int goer, .int n] [cob oh 11 [.ref os, .ref ok, .ref ol, .ref ord, .int isk, .ref odd, .ref otp, .int (nI tpd), .ref olt, .int oat, .int obg, .int otk, .int ovl, .ref orw, .int (nI rmn), .ref oso, .ref osz, .ref oit, .ref oho, .ref ohe, .ref otr, .int (nI tcd), .int own_, .int opt], cin g os 51 (mR stp laws z cnt fogs arms kinds faiths places moved), cin g ol 51 lr, cin g odd 8 dd] (fun rv W => rv = (some (.int (f_X11_where stp laws cnt fogs arms kinds faiths places moved goer n))) ∧ ∃ (j0 : Nat → Int32) (j1 : Nat → Int32), W = [cob oh 11 [.ref os, .ref ok, .ref ol, .ref ord, .int isk, .ref odd, .ref otp, .int (nI tpd), .ref olt, .int oat, .int obg, .int otk, .int ovl, .ref orw, .int (nI rmn), .ref oso, .ref osz, .ref oit, .ref oho, .ref ohe, .ref otr, .int (nI tcd), .int own_, .int opt], cin g os 51 (mR stp laws z cnt fogs arms kinds faiths places moved), cin g ol 51 j0, cin g odd 8 j1]) := by
  refine mtR.of (cc := cX11_where) (nL := 4) (ret := (some .int)) (own := RX11) (by decide +kernel) rfl rfl (Nat.le_of_ble_eq_true rfl) (fun p e s m below meth c hf hr hlk _ hk hst hw ls hl => ?_)
  have hx := hf.1
  have hb := hf.2.1
  have hts := hf.2.2.2.2
  have hl : lv_has ls 4 [(0, .ref oh), (1, .int goer), (2, .int n)] := hl
  have hinX11 : ∀ w ∈ u_ws RX11 TX11 24, w ∈ wsX11_where := fun w h => List.mem_cons_of_mem _ (List.mem_append_right _ h)
  have w_0 : Cond.fieldLink RX11 9 "LightManModel" "s" "[I" ∈ wsX11_where := List.mem_of_getElem? (i := 1) rfl
  have w_1 : Cond.fieldLink RX11 16 "LightManModel" "laid" "[I" ∈ wsX11_where := List.mem_of_getElem? (i := 2) rfl
  refine lv_aload_n hx hb dX11_where_0 rfl (lv_at hl 0 rfl) ?_
  refine lv_iload_n hx hb dX11_where_1 rfl (lv_at hl 1 rfl) ?_
  refine mcV hf hk hst hw (c_X11_isGoer l g oh os ok ol ord odd otp olt orw oso osz oit oho ohe otr stp laws z cnt fogs arms kinds faiths places moved isk tpd oat obg otk ovl rmn tcd own_ opt goer (by omega)) (cwV 1 hts gX11_where_X11_isGoer rfl rfl rfl hdV_X11_isGoer ⟨Nat.le_of_ble_eq_true rfl, Nat.le_of_ble_eq_true rfl⟩) [0, 1] rfl rfl 0 rfl rfl rfl hl.1 rfl (Nat.le_of_ble_eq_true rfl) dX11_where_2 ⟨Nat.zero_le _, Nat.zero_le _⟩ (W' := [cob oh 11 [.ref os, .ref ok, .ref ol, .ref ord, .int isk, .ref odd, .ref otp, .int (nI tpd), .ref olt, .int oat, .int obg, .int otk, .int ovl, .ref orw, .int (nI rmn), .ref oso, .ref osz, .ref oit, .ref oho, .ref ohe, .ref otr, .int (nI tcd), .int own_, .int opt], cin g os 51 (mR stp laws z cnt fogs arms kinds faiths places moved), cin g ol 51 lr, cin g odd 8 dd]) rfl (fun H locs hw => ?_)
  refine lv_if_eq (tgt := 18) hx hb dX11_where_5 (by decide) (fun c_1 => ?_) (fun c_1 => ?_)
  · refine lv_iconst (v := (-1)) hx hb dX11_where_18 (by decide) ?_
    exact rE_i hf hr hlk hw ⟨congrArg some (by simp only [f_X11_where, if_pos c_1]), _, _, rfl⟩ (show ([oh, os, ol, odd] : List Nat) = [oh, os, ol, odd] from rfl) dX11_where_19
  · have hg := has_n hc8 c_1
    have hg2 := hg.2
    refine lv_iload_n hx hb dX11_where_8 rfl (lv_at hl 2 rfl) ?_
    refine lv_iconst (v := 0) hx hb dX11_where_9 (by decide) ?_
    refine lv_bipush (v := 60) hx hb dX11_where_10 (by decide) ?_
    refine mcS hf hk hst hw (c_X11_in1 l g n 0 60) (va_cwS 3 hts gX11_where_X11_in1 rfl rfl rfl hdS_X11_in1 ⟨Nat.le_of_ble_eq_true rfl, Nat.le_of_ble_eq_true rfl⟩) [] rfl rfl rfl hl.1 rfl (Nat.le_of_ble_eq_true rfl) dX11_where_12 ⟨Nat.zero_le _, Nat.zero_le _⟩ (W' := [cob oh 11 [.ref os, .ref ok, .ref ol, .ref ord, .int isk, .ref odd, .ref otp, .int (nI tpd), .ref olt, .int oat, .int obg, .int otk, .int ovl, .ref orw, .int (nI rmn), .ref oso, .ref osz, .ref oit, .ref oho, .ref ohe, .ref otr, .int (nI tcd), .int own_, .int opt], cin g os 51 (mR stp laws z cnt fogs arms kinds faiths places moved), cin g ol 51 lr, cin g odd 8 dd]) rfl (fun H locs hw => ?_)
    refine lv_if_ne (tgt := 20) hx hb dX11_where_15 (by decide) (fun c_2 => ?_) (fun c_2 => ?_)
    · have hn := out_n (N := 60) (by decide) (nO_1 c_2)
      have hn2 := hn.2
      refine lv_aload_n hx hb dX11_where_20 rfl (lv_at hl 0 rfl) ?_
      refine rg hf hk hw hinX11 0 rfl rfl 0 (by decide) w_0 rfl dX11_where_21 ?_
      refine lv_aload_n hx hb dX11_where_24 rfl (lv_at hl 0 rfl) ?_
      refine rg hf hk hw hinX11 0 rfl rfl 2 (by decide) w_1 rfl dX11_where_25 ?_
      refine mcS hf hk hst hw (c_X11_copies l g os ol (mR stp laws z cnt fogs arms kinds faiths places moved) lr) (va_cwS 2 hts gX11_where_X11_copies rfl rfl rfl hdS_X11_copies ⟨Nat.le_of_ble_eq_true rfl, Nat.le_of_ble_eq_true rfl⟩) [1, 2] rfl rfl rfl hl.1 rfl (Nat.le_of_ble_eq_true rfl) dX11_where_28 ⟨Nat.zero_le _, Nat.zero_le _⟩ (W' := [cob oh 11 [.ref os, .ref ok, .ref ol, .ref ord, .int isk, .ref odd, .ref otp, .int (nI tpd), .ref olt, .int oat, .int obg, .int otk, .int ovl, .ref orw, .int (nI rmn), .ref oso, .ref osz, .ref oit, .ref oho, .ref ohe, .ref otr, .int (nI tcd), .int own_, .int opt], cin g os 51 (mR stp laws z cnt fogs arms kinds faiths places moved), cin g ol 51 (mR stp laws z cnt fogs arms kinds faiths places moved), cin g odd 8 dd]) rfl (fun H locs hw => ?_)
      refine lv_aload_n hx hb dX11_where_31 rfl (lv_at hl 0 rfl) ?_
      refine lv_iload_n hx hb dX11_where_32 rfl (lv_at hl 2 rfl) ?_
      refine lv_tope (y := nI (ix n)) hn.1 ?_
      refine mcV hf hk hst hw (c_X11_goes l g oh os ok ol ord odd otp olt orw oso osz oit oho ohe otr stp laws z cnt fogs arms kinds faiths places moved isk tpd oat obg otk ovl rmn tcd own_ opt dd (ix n) (by omega) (by omega) (by omega) (by assumption) (by assumption)) (cwV 1 hts gX11_where_X11_goes rfl rfl rfl hdV_X11_goes ⟨Nat.le_of_ble_eq_true rfl, Nat.le_of_ble_eq_true rfl⟩) [0, 1, 3] rfl rfl 0 rfl rfl rfl hl.1 rfl (Nat.le_of_ble_eq_true rfl) dX11_where_33 ⟨Nat.zero_le _, Nat.zero_le _⟩ (W' := [cob oh 11 [.ref os, .ref ok, .ref ol, .ref ord, .int isk, .ref odd, .ref otp, .int (nI tpd), .ref olt, .int oat, .int obg, .int otk, .int ovl, .ref orw, .int (nI rmn), .ref oso, .ref osz, .ref oit, .ref oho, .ref ohe, .ref otr, .int (nI tcd), .int own_, .int opt], cin g os 51 (mR (stp + (ix n)) laws z cnt fogs arms kinds ((stA laws fogs arms kinds cnt stp faiths places moved (ix n)).1) ((stA laws fogs arms kinds cnt stp faiths places moved (ix n)).2.1) ((stA laws fogs arms kinds cnt stp faiths places moved (ix n)).2.2)), cin g ol 51 (mR stp laws z cnt fogs arms kinds faiths places moved), cin g odd 8 (stE laws fogs arms kinds cnt stp faiths places moved dd (ix n))]) rfl (fun H locs hw => ?_)
      refine lv_aload_n hx hb dX11_where_36 rfl (lv_at hl 0 rfl) ?_
      refine lv_iload_n hx hb dX11_where_37 rfl (lv_at hl 1 rfl) ?_
      refine lv_tope (y := nI (ix goer)) hg.1 ?_
      refine lv_iconst (v := 2) hx hb dX11_where_38 (by decide) ?_
      refine mcV hf hk hst hw (c_X11_get2 l g oh os ok ol ord odd otp olt orw oso osz oit oho ohe otr (stp + (ix n)) laws z cnt fogs arms kinds ((stA laws fogs arms kinds cnt stp faiths places moved (ix n)).1) ((stA laws fogs arms kinds cnt stp faiths places moved (ix n)).2.1) ((stA laws fogs arms kinds cnt stp faiths places moved (ix n)).2.2) isk tpd oat obg otk ovl rmn tcd own_ opt (ix goer) (by omega)) (cwV 2 hts gX11_where_X11_get rfl rfl rfl hdV_X11_get ⟨Nat.le_of_ble_eq_true rfl, Nat.le_of_ble_eq_true rfl⟩) [0, 1] rfl rfl 0 rfl rfl rfl hl.1 rfl (Nat.le_of_ble_eq_true rfl) dX11_where_39 ⟨Nat.zero_le _, Nat.zero_le _⟩ (W' := [cob oh 11 [.ref os, .ref ok, .ref ol, .ref ord, .int isk, .ref odd, .ref otp, .int (nI tpd), .ref olt, .int oat, .int obg, .int otk, .int ovl, .ref orw, .int (nI rmn), .ref oso, .ref osz, .ref oit, .ref oho, .ref ohe, .ref otr, .int (nI tcd), .int own_, .int opt], cin g os 51 (mR (stp + (ix n)) laws z cnt fogs arms kinds ((stA laws fogs arms kinds cnt stp faiths places moved (ix n)).1) ((stA laws fogs arms kinds cnt stp faiths places moved (ix n)).2.1) ((stA laws fogs arms kinds cnt stp faiths places moved (ix n)).2.2)), cin g ol 51 (mR stp laws z cnt fogs arms kinds faiths places moved), cin g odd 8 (stE laws fogs arms kinds cnt stp faiths places moved dd (ix n))]) rfl (fun H locs hw => ?_)
      refine lv_tope (y := (itG laws fogs arms (kinds (ix goer)) stp (faiths (ix goer)) (places (ix goer)) (moved (ix goer)) (ix n)).2.1) ((stA_it hg2 _).2.1) ?_
      refine lv_istore_n (lv' := [(3, .int ((itG laws fogs arms (kinds (ix goer)) stp (faiths (ix goer)) (places (ix goer)) (moved (ix goer)) (ix n)).2.1)), (0, .ref oh), (1, .int goer), (2, .int n)]) hx hb dX11_where_42 rfl hl (by decide) rfl (fun ls hl => ?_)
      refine lv_aload_n hx hb dX11_where_43 rfl (lv_at hl 1 rfl) ?_
      refine rg hf hk hw hinX11 0 rfl rfl 2 (by decide) w_1 rfl dX11_where_44 ?_
      refine lv_aload_n hx hb dX11_where_47 rfl (lv_at hl 1 rfl) ?_
      refine rg hf hk hw hinX11 0 rfl rfl 0 (by decide) w_0 rfl dX11_where_48 ?_
      refine mcS hf hk hst hw (c_X11_copies l g ol os (mR stp laws z cnt fogs arms kinds faiths places moved) (mR (stp + (ix n)) laws z cnt fogs arms kinds ((stA laws fogs arms kinds cnt stp faiths places moved (ix n)).1) ((stA laws fogs arms kinds cnt stp faiths places moved (ix n)).2.1) ((stA laws fogs arms kinds cnt stp faiths places moved (ix n)).2.2))) (va_cwS 2 hts gX11_where_X11_copies rfl rfl rfl hdS_X11_copies ⟨Nat.le_of_ble_eq_true rfl, Nat.le_of_ble_eq_true rfl⟩) [2, 1] rfl rfl rfl hl.1 rfl (Nat.le_of_ble_eq_true rfl) dX11_where_51 ⟨Nat.zero_le _, Nat.zero_le _⟩ (W' := [cob oh 11 [.ref os, .ref ok, .ref ol, .ref ord, .int isk, .ref odd, .ref otp, .int (nI tpd), .ref olt, .int oat, .int obg, .int otk, .int ovl, .ref orw, .int (nI rmn), .ref oso, .ref osz, .ref oit, .ref oho, .ref ohe, .ref otr, .int (nI tcd), .int own_, .int opt], cin g os 51 (mR stp laws z cnt fogs arms kinds faiths places moved), cin g ol 51 (mR stp laws z cnt fogs arms kinds faiths places moved), cin g odd 8 (stE laws fogs arms kinds cnt stp faiths places moved dd (ix n))]) rfl (fun H locs hw => ?_)
      refine lv_iload_n hx hb dX11_where_54 rfl (lv_at hl 0 rfl) ?_
      exact rE_i hf hr hlk hw ⟨congrArg some (by simp only [f_X11_where, if_neg c_1, if_neg c_2]), _, _, rfl⟩ (show ([oh, os, ol, odd] : List Nat) = [oh, os, ol, odd] from rfl) dX11_where_55
    · refine lv_iconst (v := (-1)) hx hb dX11_where_18 (by decide) ?_
      exact rE_i hf hr hlk hw ⟨congrArg some (by simp only [f_X11_where, if_neg c_1, if_pos c_2]), _, _, rfl⟩ (show ([oh, os, ol, odd] : List Nat) = [oh, os, ol, odd] from rfl) dX11_where_19
abbrev rmX11_comesBy : Room := { frames := 6, cells := 0, slots := 0, locals := 132 }
set_option maxHeartbeats 4000000 in
set_option maxRecDepth 100000 in
theorem c_X11_comesBy (l : Launch) (g : GG) (oh : Nat) (os : Nat) (ok : Nat) (ol : Nat) (ord : Nat) (odd : Nat) (otp : Nat) (olt : Nat) (orw : Nat) (oso : Nat) (osz : Nat) (oit : Nat) (oho : Nat) (ohe : Nat) (otr : Nat) (stp : Nat) (laws : Nat → Int32) (z : Int32) (cnt : Nat) (fogs : Nat → Int32) (arms : Nat → Int32) (kinds : Nat → Int32) (faiths : Nat → Int32) (places : Nat → Int32) (moved : Nat → Int32) (isk : Int32) (tpd : Nat) (oat : Int32) (obg : Int32) (otk : Int32) (ovl : Int32) (rmn : Nat) (tcd : Nat) (own_ : Int32) (opt : Int32) (lr : Nat → Int32) (dd : Nat → Int32) (q : Nat) (hc8 : cnt ≤ 8) (hsp : stp < 2 ^ 29) (hpl : ∀ j, j < cnt → plOk (places j)) (hmo_ : ∀ j, j < cnt → moOk (moved j)) (hq : q < cnt) : mtR l g yX11_comesBy wsX11_comesBy rmX11_comesBy [.ref oh, .int (nI q)] [cob oh 11 [.ref os, .ref ok, .ref ol, .ref ord, .int isk, .ref odd, .ref otp, .int (nI tpd), .ref olt, .int oat, .int obg, .int otk, .int ovl, .ref orw, .int (nI rmn), .ref oso, .ref osz, .ref oit, .ref oho, .ref ohe, .ref otr, .int (nI tcd), .int own_, .int opt], cin g os 51 (mR stp laws z cnt fogs arms kinds faiths places moved), cin g ol 51 lr, cin g odd 8 dd] (fun rv W => rv = (some (.int (cbF (snR (itT laws fogs arms (kinds q) stp (faiths q) (places q) (moved q)) 61 0)))) ∧ ∃ (j0 : Nat → Int32) (j1 : Nat → Int32), W = [cob oh 11 [.ref os, .ref ok, .ref ol, .ref ord, .int isk, .ref odd, .ref otp, .int (nI tpd), .ref olt, .int oat, .int obg, .int otk, .int ovl, .ref orw, .int (nI rmn), .ref oso, .ref osz, .ref oit, .ref oho, .ref ohe, .ref otr, .int (nI tcd), .int own_, .int opt], cin g os 51 j0, cin g ol 51 lr, cin g odd 8 j1]) := by
  refine mtR.of (cc := cX11_comesBy) (nL := 3) (ret := (some .int)) (own := RX11) (by decide +kernel) rfl rfl (Nat.le_of_ble_eq_true rfl) (fun p e s m below meth c hf hr hlk _ hk hst hw ls hl => ?_)
  have hx := hf.1
  have hb := hf.2.1
  have hts := hf.2.2.2.2
  have hl : lv_has ls 3 [(0, .ref oh), (1, .int (nI q))] := hl
  refine lv_iconst (v := 0) hx hb dX11_comesBy_0 (by decide) ?_
  refine lv_istore_n (lv' := [(2, .int 0), (0, .ref oh), (1, .int (nI q))]) hx hb dX11_comesBy_1 rfl hl (by decide) rfl (fun ls hl => ?_)
  have lp_2_0 : ∀ (fu k : Nat), k ≤ 61 → 61 + 1 ≤ k + fu → (snR (itT laws fogs arms (kinds q) stp (faiths q) (places q) (moved q)) 61 0 = snR (itT laws fogs arms (kinds q) stp (faiths q) (places q) (moved q)) (61 - k) k) → ∀ (H : Heap) (locs : List Loc), hv g (va_I [cob oh 11 [.ref os, .ref ok, .ref ol, .ref ord, .int isk, .ref odd, .ref otp, .int (nI tpd), .ref olt, .int oat, .int obg, .int otk, .int ovl, .ref orw, .int (nI rmn), .ref oso, .ref osz, .ref oit, .ref oho, .ref ohe, .ref otr, .int (nI tcd), .int own_, .int opt], cin g os 51 (mR stp laws z cnt fogs arms kinds faiths places moved), cin g ol 51 lr, cin g odd 8 dd]) s H locs [cob oh 11 [.ref os, .ref ok, .ref ol, .ref ord, .int isk, .ref odd, .ref otp, .int (nI tpd), .ref olt, .int oat, .int obg, .int otk, .int ovl, .ref orw, .int (nI rmn), .ref oso, .ref osz, .ref oit, .ref oho, .ref ohe, .ref otr, .int (nI tcd), .int own_, .int opt], cin g os 51 (mR (stp + k) laws z cnt fogs arms kinds ((stA laws fogs arms kinds cnt stp faiths places moved k).1) ((stA laws fogs arms kinds cnt stp faiths places moved k).2.1) ((stA laws fogs arms kinds cnt stp faiths places moved k).2.2)), cin g ol 51 lr, cin g odd 8 (stE laws fogs arms kinds cnt stp faiths places moved dd k)] → ∀ ls : Array Slot, lv_has ls 3 [(2, .int (nI k)), (0, .ref oh), (1, .int (nI q))] → W p l e rmX11_comesBy s m ([.ref oh, .int (nI q)] : List Value).toArray below meth c H locs 0 0 (MQ below (mtS g [cob oh 11 [.ref os, .ref ok, .ref ol, .ref ord, .int isk, .ref odd, .ref otp, .int (nI tpd), .ref olt, .int oat, .int obg, .int otk, .int ovl, .ref orw, .int (nI rmn), .ref oso, .ref osz, .ref oit, .ref oho, .ref ohe, .ref otr, .int (nI tcd), .int own_, .int opt], cin g os 51 (mR stp laws z cnt fogs arms kinds faiths places moved), cin g ol 51 lr, cin g odd 8 dd] (fun rv W => rv = (some (.int (cbF (snR (itT laws fogs arms (kinds q) stp (faiths q) (places q) (moved q)) 61 0)))) ∧ ∃ (j0 : Nat → Int32) (j1 : Nat → Int32), W = [cob oh 11 [.ref os, .ref ok, .ref ol, .ref ord, .int isk, .ref odd, .ref otp, .int (nI tpd), .ref olt, .int oat, .int obg, .int otk, .int ovl, .ref orw, .int (nI rmn), .ref oso, .ref osz, .ref oit, .ref oho, .ref ohe, .ref otr, .int (nI tcd), .int own_, .int opt], cin g os 51 j0, cin g ol 51 lr, cin g odd 8 j1])) ([.ref oh, .int (nI q)] : List Value).toArray s 0 0 (va_I [cob oh 11 [.ref os, .ref ok, .ref ol, .ref ord, .int isk, .ref odd, .ref otp, .int (nI tpd), .ref olt, .int oat, .int obg, .int otk, .int ovl, .ref orw, .int (nI rmn), .ref oso, .ref osz, .ref oit, .ref oho, .ref ohe, .ref otr, .int (nI tcd), .int own_, .int opt], cin g os 51 (mR stp laws z cnt fogs arms kinds faiths places moved), cin g ol 51 lr, cin g odd 8 dd])) (F0 m 2 ls []) := by
    intro fu
    induction fu with
    | zero =>
      intro k h1 h2
      exact absurd h2 (by omega)
    | succ fu ih_2 =>
      intro k hk1_2 hk2_2 eR H locs hw ls hl
      refine lv_iload_n hx hb dX11_comesBy_2 rfl (lv_at hl 0 rfl) ?_
      refine lv_bipush (v := 60) hx hb dX11_comesBy_3 (by decide) ?_
      refine lv_icmp_gt (tgt := 26) hx hb dX11_comesBy_5 (by decide) (fun c_2 => ?_) (fun c_2 => ?_)
      · have hkE : k = 61 := by have := (nI_ltI (a := 60) (by omega) (by omega)).mp c_2; omega
        refine lv_iload_n hx hb dX11_comesBy_26 rfl (lv_at hl 0 rfl) ?_
        refine lv_bipush (v := 60) hx hb dX11_comesBy_27 (by decide) ?_
        refine lv_icmp_le (tgt := 37) hx hb dX11_comesBy_29 (by decide) (fun q => absurd q (fun h => absurd ((nI_leI (b := 60) (by omega) (by omega)).mp h) (by omega))) (fun _ => ?_)
        refine lv_bipush (v := (-3)) hx hb dX11_comesBy_32 (by decide) ?_
        refine lv_goto (tgt := 38) hx hb dX11_comesBy_34 (by decide) ?_
        have hz : 61 - k = 0 := by omega
        rw [hz] at eR
        exact rE_i hf hr hlk hw ⟨congrArg some (by rw [eR]; rfl), _, _, rfl⟩ (show ([oh, os, ol, odd] : List Nat) = [oh, os, ol, odd] from rfl) dX11_comesBy_38
      · have hkE : k ≤ 60 := Nat.not_lt.mp (fun h => c_2 ((nI_ltI (a := 60) (by omega) (by omega)).mpr h))
        have hm : 61 - k = (60 - k) + 1 := by omega
        refine lv_aload_n hx hb dX11_comesBy_8 rfl (lv_at hl 1 rfl) ?_
        refine lv_iload_n hx hb dX11_comesBy_9 rfl (lv_at hl 2 rfl) ?_
        refine mcV hf hk hst hw (c_X11_isThrough l g oh os ok ol ord odd otp olt orw oso osz oit oho ohe otr (stp + k) laws z cnt fogs arms kinds ((stA laws fogs arms kinds cnt stp faiths places moved k).1) ((stA laws fogs arms kinds cnt stp faiths places moved k).2.1) ((stA laws fogs arms kinds cnt stp faiths places moved k).2.2) isk tpd oat obg otk ovl rmn tcd own_ opt q (by omega) ((stA_ok hpl hmo_ k).1 q hq)) (cwV 1 hts gX11_comesBy_X11_isThrough rfl rfl rfl hdV_X11_isThrough ⟨Nat.le_of_ble_eq_true rfl, Nat.le_of_ble_eq_true rfl⟩) [0, 1] rfl rfl 0 rfl rfl rfl hl.1 rfl (Nat.le_of_ble_eq_true rfl) dX11_comesBy_10 ⟨Nat.zero_le _, Nat.zero_le _⟩ (W' := [cob oh 11 [.ref os, .ref ok, .ref ol, .ref ord, .int isk, .ref odd, .ref otp, .int (nI tpd), .ref olt, .int oat, .int obg, .int otk, .int ovl, .ref orw, .int (nI rmn), .ref oso, .ref osz, .ref oit, .ref oho, .ref ohe, .ref otr, .int (nI tcd), .int own_, .int opt], cin g os 51 (mR (stp + k) laws z cnt fogs arms kinds ((stA laws fogs arms kinds cnt stp faiths places moved k).1) ((stA laws fogs arms kinds cnt stp faiths places moved k).2.1) ((stA laws fogs arms kinds cnt stp faiths places moved k).2.2)), cin g ol 51 lr, cin g odd 8 (stE laws fogs arms kinds cnt stp faiths places moved dd k)]) rfl (fun H locs hw => ?_)
        refine lv_tope (y := (itT laws fogs arms (kinds q) stp (faiths q) (places q) (moved q)) k) (by show thrF _ = thrF _; rw [(stA_it hq k).2.1]) ?_
        refine lv_if_ne (tgt := 26) hx hb dX11_comesBy_13 (by decide) (fun c_3 => ?_) (fun c_3 => ?_)
        · have hT2 := c_3
          refine lv_iload_n hx hb dX11_comesBy_26 rfl (lv_at hl 0 rfl) ?_
          refine lv_bipush (v := 60) hx hb dX11_comesBy_27 (by decide) ?_
          refine lv_icmp_le (tgt := 37) hx hb dX11_comesBy_29 (by decide) (fun _ => ?_) (fun q => absurd ((nI_leI (b := 60) (by omega) (by omega)).mpr hkE) q)
          refine lv_iload_n hx hb dX11_comesBy_37 rfl (lv_at hl 0 rfl) ?_
          exact rE_i hf hr hlk hw ⟨congrArg some (by rw [eR, hm]; unfold cbF; rw [show snR (itT laws fogs arms (kinds q) stp (faiths q) (places q) (moved q)) (60 - k + 1) k = nI k from if_neg hT2, if_pos (show nI k ≤ 60 from nI_le (b := 60) (by omega) (by omega))]), _, _, rfl⟩ (show ([oh, os, ol, odd] : List Nat) = [oh, os, ol, odd] from rfl) dX11_comesBy_38
        · have hT2 := c_3
          refine lv_aload_n hx hb dX11_comesBy_16 rfl (lv_at hl 1 rfl) ?_
          refine mcV hf hk hst hw (c_X11_step1 l g oh os ok ol ord odd otp olt orw oso osz oit oho ohe otr (stp + k) laws z cnt fogs arms kinds ((stA laws fogs arms kinds cnt stp faiths places moved k).1) ((stA laws fogs arms kinds cnt stp faiths places moved k).2.1) ((stA laws fogs arms kinds cnt stp faiths places moved k).2.2) isk tpd oat obg otk ovl rmn tcd own_ opt (stE laws fogs arms kinds cnt stp faiths places moved dd k) (by omega) (by omega) ((stA_ok hpl hmo_ k).1) ((stA_ok hpl hmo_ k).2)) (cwV 0 hts gX11_comesBy_X11_step1 rfl rfl rfl hdV_X11_step1 ⟨Nat.le_of_ble_eq_true rfl, Nat.le_of_ble_eq_true rfl⟩) [0, 1, 3] rfl rfl 0 rfl rfl rfl hl.1 rfl (Nat.le_of_ble_eq_true rfl) dX11_comesBy_17 ⟨Nat.zero_le _, Nat.zero_le _⟩ (W' := [cob oh 11 [.ref os, .ref ok, .ref ol, .ref ord, .int isk, .ref odd, .ref otp, .int (nI tpd), .ref olt, .int oat, .int obg, .int otk, .int ovl, .ref orw, .int (nI rmn), .ref oso, .ref osz, .ref oit, .ref oho, .ref ohe, .ref otr, .int (nI tcd), .int own_, .int opt], cin g os 51 (mR ((stp + k) + 1) laws z cnt fogs arms kinds (goF laws fogs arms (stp + k) kinds ((stA laws fogs arms kinds cnt stp faiths places moved k).1) ((stA laws fogs arms kinds cnt stp faiths places moved k).2.1) cnt) (goP laws fogs arms (stp + k) kinds ((stA laws fogs arms kinds cnt stp faiths places moved k).1) ((stA laws fogs arms kinds cnt stp faiths places moved k).2.1) cnt) (goM laws fogs arms (stp + k) kinds ((stA laws fogs arms kinds cnt stp faiths places moved k).2.1) ((stA laws fogs arms kinds cnt stp faiths places moved k).2.2) cnt)), cin g ol 51 lr, cin g odd 8 (goE laws fogs arms (stp + k) kinds ((stA laws fogs arms kinds cnt stp faiths places moved k).1) ((stA laws fogs arms kinds cnt stp faiths places moved k).2.1) (stE laws fogs arms kinds cnt stp faiths places moved dd k) cnt)]) rfl (fun H locs hw => ?_)
          refine lv_iinc (v := nI (k + 1)) (lv' := [(2, .int (nI (k + 1))), (0, .ref oh), (1, .int (nI q))]) hx hb dX11_comesBy_20 hl (k := 0) rfl (nI_1 _) (by decide) rfl (fun ls hl => ?_)
          refine lv_goto (tgt := 2) hx hb dX11_comesBy_23 (by decide) ?_
          have e_1 : mR ((stp + k) + 1) laws z cnt fogs arms kinds (goF laws fogs arms (stp + k) kinds ((stA laws fogs arms kinds cnt stp faiths places moved k).1) ((stA laws fogs arms kinds cnt stp faiths places moved k).2.1) cnt) (goP laws fogs arms (stp + k) kinds ((stA laws fogs arms kinds cnt stp faiths places moved k).1) ((stA laws fogs arms kinds cnt stp faiths places moved k).2.1) cnt) (goM laws fogs arms (stp + k) kinds ((stA laws fogs arms kinds cnt stp faiths places moved k).2.1) ((stA laws fogs arms kinds cnt stp faiths places moved k).2.2) cnt) = mR (stp + (k + 1)) laws z cnt fogs arms kinds ((stA laws fogs arms kinds cnt stp faiths places moved (k + 1)).1) ((stA laws fogs arms kinds cnt stp faiths places moved (k + 1)).2.1) ((stA laws fogs arms kinds cnt stp faiths places moved (k + 1)).2.2) := rfl
          rw [e_1] at hw
          have e_2 : goE laws fogs arms (stp + k) kinds ((stA laws fogs arms kinds cnt stp faiths places moved k).1) ((stA laws fogs arms kinds cnt stp faiths places moved k).2.1) (stE laws fogs arms kinds cnt stp faiths places moved dd k) cnt = (stE laws fogs arms kinds cnt stp faiths places moved dd (k + 1)) := rfl
          rw [e_2] at hw
          exact ih_2 (k + 1) (by omega) (by omega) (by rw [eR, hm, show 61 - (k + 1) = 60 - k by omega]; exact if_pos hT2) _ _ hw _ (lv_sub hl [0, 1, 2] rfl)
  exact lp_2_0 (61 + 1) 0 (by omega) (by omega) (rfl) _ _ hw _ (lv_sub hl [0, 1, 2] rfl)
theorem hdV_X11_comesBy : yX11_comesBy.cls = RX11 ∧ yX11_comesBy.cls ≠ "java/lang/invoke/MethodHandle" ∧ yX11_comesBy.cls ≠ "java/lang/invoke/VarHandle" ∧ (parseMethodDescriptor yX11_comesBy.desc).map (fun d => d.parameters.length) = some 1 := by decide +kernel
def f_X11_comes (stp : Nat) (laws : Nat → Int32) (cnt : Nat) (fogs : Nat → Int32) (arms : Nat → Int32) (kinds : Nat → Int32) (faiths : Nat → Int32) (places : Nat → Int32) (moved : Nat → Int32) (goer : Int32) : Int32 := if (f_X8_has cnt goer) = 0 then (-1) else (cbF (snR (itT laws fogs arms (kinds (ix goer)) stp (faiths (ix goer)) (places (ix goer)) (moved (ix goer))) 61 0))
abbrev rmX11_comes : Room := { frames := 7, cells := 0, slots := 0, locals := 154 }
set_option maxHeartbeats 4000000 in
set_option maxRecDepth 100000 in
theorem c_X11_comes (l : Launch) (g : GG) (oh : Nat) (os : Nat) (ok : Nat) (ol : Nat) (ord : Nat) (odd : Nat) (otp : Nat) (olt : Nat) (orw : Nat) (oso : Nat) (osz : Nat) (oit : Nat) (oho : Nat) (ohe : Nat) (otr : Nat) (stp : Nat) (laws : Nat → Int32) (z : Int32) (cnt : Nat) (fogs : Nat → Int32) (arms : Nat → Int32) (kinds : Nat → Int32) (faiths : Nat → Int32) (places : Nat → Int32) (moved : Nat → Int32) (isk : Int32) (tpd : Nat) (oat : Int32) (obg : Int32) (otk : Int32) (ovl : Int32) (rmn : Nat) (tcd : Nat) (own_ : Int32) (opt : Int32) (lr : Nat → Int32) (dd : Nat → Int32) (goer : Int32) (hc8 : cnt ≤ 8) (hsp : stp < 2 ^ 29) (hpl : ∀ j, j < cnt → plOk (places j)) (hmo_ : ∀ j, j < cnt → moOk (moved j)) : mtR l g yX11_comes wsX11_comes rmX11_comes [.ref oh, .int goer] [cob oh 11 [.ref os, .ref ok, .ref ol, .ref ord, .int isk, .ref odd, .ref otp, .int (nI tpd), .ref olt, .int oat, .int obg, .int otk, .int ovl, .ref orw, .int (nI rmn), .ref oso, .ref osz, .ref oit, .ref oho, .ref ohe, .ref otr, .int (nI tcd), .int own_, .int opt], cin g os 51 (mR stp laws z cnt fogs arms kinds faiths places moved), cin g ol 51 lr, cin g odd 8 dd] (fun rv W => rv = (some (.int (f_X11_comes stp laws cnt fogs arms kinds faiths places moved goer))) ∧ ∃ (j0 : Nat → Int32) (j1 : Nat → Int32), W = [cob oh 11 [.ref os, .ref ok, .ref ol, .ref ord, .int isk, .ref odd, .ref otp, .int (nI tpd), .ref olt, .int oat, .int obg, .int otk, .int ovl, .ref orw, .int (nI rmn), .ref oso, .ref osz, .ref oit, .ref oho, .ref ohe, .ref otr, .int (nI tcd), .int own_, .int opt], cin g os 51 (mR stp laws z cnt fogs arms kinds faiths places moved), cin g ol 51 j0, cin g odd 8 j1]) := by
  refine mtR.of (cc := cX11_comes) (nL := 3) (ret := (some .int)) (own := RX11) (by decide +kernel) rfl rfl (Nat.le_of_ble_eq_true rfl) (fun p e s m below meth c hf hr hlk _ hk hst hw ls hl => ?_)
  have hx := hf.1
  have hb := hf.2.1
  have hts := hf.2.2.2.2
  have hl : lv_has ls 3 [(0, .ref oh), (1, .int goer)] := hl
  have hinX11 : ∀ w ∈ u_ws RX11 TX11 24, w ∈ wsX11_comes := fun w h => List.mem_cons_of_mem _ (List.mem_append_right _ h)
  have w_0 : Cond.fieldLink RX11 9 "LightManModel" "s" "[I" ∈ wsX11_comes := List.mem_of_getElem? (i := 1) rfl
  have w_1 : Cond.fieldLink RX11 16 "LightManModel" "laid" "[I" ∈ wsX11_comes := List.mem_of_getElem? (i := 2) rfl
  refine lv_aload_n hx hb dX11_comes_0 rfl (lv_at hl 0 rfl) ?_
  refine lv_iload_n hx hb dX11_comes_1 rfl (lv_at hl 1 rfl) ?_
  refine mcV hf hk hst hw (c_X11_isGoer l g oh os ok ol ord odd otp olt orw oso osz oit oho ohe otr stp laws z cnt fogs arms kinds faiths places moved isk tpd oat obg otk ovl rmn tcd own_ opt goer (by omega)) (cwV 1 hts gX11_comes_X11_isGoer rfl rfl rfl hdV_X11_isGoer ⟨Nat.le_of_ble_eq_true rfl, Nat.le_of_ble_eq_true rfl⟩) [0, 1] rfl rfl 0 rfl rfl rfl hl.1 rfl (Nat.le_of_ble_eq_true rfl) dX11_comes_2 ⟨Nat.zero_le _, Nat.zero_le _⟩ (W' := [cob oh 11 [.ref os, .ref ok, .ref ol, .ref ord, .int isk, .ref odd, .ref otp, .int (nI tpd), .ref olt, .int oat, .int obg, .int otk, .int ovl, .ref orw, .int (nI rmn), .ref oso, .ref osz, .ref oit, .ref oho, .ref ohe, .ref otr, .int (nI tcd), .int own_, .int opt], cin g os 51 (mR stp laws z cnt fogs arms kinds faiths places moved), cin g ol 51 lr, cin g odd 8 dd]) rfl (fun H locs hw => ?_)
  refine lv_if_ne (tgt := 10) hx hb dX11_comes_5 (by decide) (fun c_1 => ?_) (fun c_1 => ?_)
  · have hg := has_n hc8 c_1
    have hg2 := hg.2
    refine lv_aload_n hx hb dX11_comes_10 rfl (lv_at hl 0 rfl) ?_
    refine rg hf hk hw hinX11 0 rfl rfl 0 (by decide) w_0 rfl dX11_comes_11 ?_
    refine lv_aload_n hx hb dX11_comes_14 rfl (lv_at hl 0 rfl) ?_
    refine rg hf hk hw hinX11 0 rfl rfl 2 (by decide) w_1 rfl dX11_comes_15 ?_
    refine mcS hf hk hst hw (c_X11_copies l g os ol (mR stp laws z cnt fogs arms kinds faiths places moved) lr) (va_cwS 2 hts gX11_comes_X11_copies rfl rfl rfl hdS_X11_copies ⟨Nat.le_of_ble_eq_true rfl, Nat.le_of_ble_eq_true rfl⟩) [1, 2] rfl rfl rfl hl.1 rfl (Nat.le_of_ble_eq_true rfl) dX11_comes_18 ⟨Nat.zero_le _, Nat.zero_le _⟩ (W' := [cob oh 11 [.ref os, .ref ok, .ref ol, .ref ord, .int isk, .ref odd, .ref otp, .int (nI tpd), .ref olt, .int oat, .int obg, .int otk, .int ovl, .ref orw, .int (nI rmn), .ref oso, .ref osz, .ref oit, .ref oho, .ref ohe, .ref otr, .int (nI tcd), .int own_, .int opt], cin g os 51 (mR stp laws z cnt fogs arms kinds faiths places moved), cin g ol 51 (mR stp laws z cnt fogs arms kinds faiths places moved), cin g odd 8 dd]) rfl (fun H locs hw => ?_)
    refine lv_aload_n hx hb dX11_comes_21 rfl (lv_at hl 0 rfl) ?_
    refine lv_iload_n hx hb dX11_comes_22 rfl (lv_at hl 1 rfl) ?_
    refine lv_tope (y := nI (ix goer)) hg.1 ?_
    refine mcVF hf hk hst hw (c_X11_comesBy l g oh os ok ol ord odd otp olt orw oso osz oit oho ohe otr stp laws z cnt fogs arms kinds faiths places moved isk tpd oat obg otk ovl rmn tcd own_ opt (mR stp laws z cnt fogs arms kinds faiths places moved) dd (ix goer) (by omega) (by omega) (by assumption) (by assumption) (hg2)) (cwV 1 hts gX11_comes_X11_comesBy rfl rfl rfl hdV_X11_comesBy ⟨Nat.le_of_ble_eq_true rfl, Nat.le_of_ble_eq_true rfl⟩) 0 rfl rfl rfl hl.1 rfl (Nat.le_of_ble_eq_true rfl) dX11_comes_23 ⟨Nat.zero_le _, Nat.zero_le _⟩ (fun rv ws2 hPo H locs hw => ?_)
    obtain ⟨rfl, u2_j0, u2_j1, rfl⟩ := hPo
    refine lv_istore_n (lv' := [(2, .int (cbF (snR (itT laws fogs arms (kinds (ix goer)) stp (faiths (ix goer)) (places (ix goer)) (moved (ix goer))) 61 0))), (0, .ref oh), (1, .int goer)]) hx hb dX11_comes_26 rfl hl (by decide) rfl (fun ls hl => ?_)
    refine lv_aload_n hx hb dX11_comes_27 rfl (lv_at hl 1 rfl) ?_
    refine rg hf hk hw hinX11 0 rfl rfl 2 (by decide) w_1 rfl dX11_comes_28 ?_
    refine lv_aload_n hx hb dX11_comes_31 rfl (lv_at hl 1 rfl) ?_
    refine rg hf hk hw hinX11 0 rfl rfl 0 (by decide) w_0 rfl dX11_comes_32 ?_
    refine mcS hf hk hst hw (c_X11_copies l g ol os (mR stp laws z cnt fogs arms kinds faiths places moved) u2_j0) (va_cwS 2 hts gX11_comes_X11_copies rfl rfl rfl hdS_X11_copies ⟨Nat.le_of_ble_eq_true rfl, Nat.le_of_ble_eq_true rfl⟩) [2, 1] rfl rfl rfl hl.1 rfl (Nat.le_of_ble_eq_true rfl) dX11_comes_35 ⟨Nat.zero_le _, Nat.zero_le _⟩ (W' := [cob oh 11 [.ref os, .ref ok, .ref ol, .ref ord, .int isk, .ref odd, .ref otp, .int (nI tpd), .ref olt, .int oat, .int obg, .int otk, .int ovl, .ref orw, .int (nI rmn), .ref oso, .ref osz, .ref oit, .ref oho, .ref ohe, .ref otr, .int (nI tcd), .int own_, .int opt], cin g os 51 (mR stp laws z cnt fogs arms kinds faiths places moved), cin g ol 51 (mR stp laws z cnt fogs arms kinds faiths places moved), cin g odd 8 u2_j1]) rfl (fun H locs hw => ?_)
    refine lv_iload_n hx hb dX11_comes_38 rfl (lv_at hl 0 rfl) ?_
    exact rE_i hf hr hlk hw ⟨congrArg some (by simp only [f_X11_comes, if_neg c_1]), _, _, rfl⟩ (show ([oh, os, ol, odd] : List Nat) = [oh, os, ol, odd] from rfl) dX11_comes_39
  · refine lv_iconst (v := (-1)) hx hb dX11_comes_8 (by decide) ?_
    exact rE_i hf hr hlk hw ⟨congrArg some (by simp only [f_X11_comes, if_pos c_1]), _, _, rfl⟩ (show ([oh, os, ol, odd] : List Nat) = [oh, os, ol, odd] from rfl) dX11_comes_9
abbrev rmX11_firstTo : Room := { frames := 6, cells := 0, slots := 0, locals := 132 }
set_option maxHeartbeats 4000000 in
set_option maxRecDepth 100000 in
theorem c_X11_firstTo (l : Launch) (g : GG) (oh : Nat) (os : Nat) (ok : Nat) (ol : Nat) (ord : Nat) (odd : Nat) (otp : Nat) (olt : Nat) (orw : Nat) (oso : Nat) (osz : Nat) (oit : Nat) (oho : Nat) (ohe : Nat) (otr : Nat) (stp : Nat) (laws : Nat → Int32) (z : Int32) (cnt : Nat) (fogs : Nat → Int32) (arms : Nat → Int32) (kinds : Nat → Int32) (faiths : Nat → Int32) (places : Nat → Int32) (moved : Nat → Int32) (isk : Int32) (tpd : Nat) (oat : Int32) (obg : Int32) (otk : Int32) (ovl : Int32) (rmn : Nat) (tcd : Nat) (own_ : Int32) (opt : Int32) (lr : Nat → Int32) (dd : Nat → Int32) (q : Nat) (deed : Int32) (hc8 : cnt ≤ 8) (hsp : stp < 2 ^ 29) (hpl : ∀ j, j < cnt → plOk (places j)) (hmo_ : ∀ j, j < cnt → moOk (moved j)) (hq : q < cnt) : mtR l g yX11_firstTo wsX11_firstTo rmX11_firstTo [.ref oh, .int (nI q), .int deed] [cob oh 11 [.ref os, .ref ok, .ref ol, .ref ord, .int isk, .ref odd, .ref otp, .int (nI tpd), .ref olt, .int oat, .int obg, .int otk, .int ovl, .ref orw, .int (nI rmn), .ref oso, .ref osz, .ref oit, .ref oho, .ref ohe, .ref otr, .int (nI tcd), .int own_, .int opt], cin g os 51 (mR stp laws z cnt fogs arms kinds faiths places moved), cin g ol 51 lr, cin g odd 8 dd] (fun rv W => rv = (some (.int (fsR (itE laws fogs arms (kinds q) stp (faiths q) (places q) (moved q)) deed 60 0))) ∧ ∃ (j0 : Nat → Int32) (j1 : Nat → Int32), W = [cob oh 11 [.ref os, .ref ok, .ref ol, .ref ord, .int isk, .ref odd, .ref otp, .int (nI tpd), .ref olt, .int oat, .int obg, .int otk, .int ovl, .ref orw, .int (nI rmn), .ref oso, .ref osz, .ref oit, .ref oho, .ref ohe, .ref otr, .int (nI tcd), .int own_, .int opt], cin g os 51 (mR stp laws z cnt fogs arms kinds faiths places moved), cin g ol 51 j0, cin g odd 8 j1]) := by
  refine mtR.of (cc := cX11_firstTo) (nL := 5) (ret := (some .int)) (own := RX11) (by decide +kernel) rfl rfl (Nat.le_of_ble_eq_true rfl) (fun p e s m below meth c hf hr hlk _ hk hst hw ls hl => ?_)
  have hx := hf.1
  have hb := hf.2.1
  have hts := hf.2.2.2.2
  have hl : lv_has ls 5 [(0, .ref oh), (1, .int (nI q)), (2, .int deed)] := hl
  have hinX11 : ∀ w ∈ u_ws RX11 TX11 24, w ∈ wsX11_firstTo := fun w h => List.mem_cons_of_mem _ (List.mem_append_right _ h)
  have w_0 : Cond.fieldLink RX11 9 "LightManModel" "s" "[I" ∈ wsX11_firstTo := List.mem_of_getElem? (i := 1) rfl
  have w_1 : Cond.fieldLink RX11 16 "LightManModel" "laid" "[I" ∈ wsX11_firstTo := List.mem_of_getElem? (i := 2) rfl
  have w_2 : Cond.fieldLink RX11 22 "LightManModel" "did" "[I" ∈ wsX11_firstTo := List.mem_of_getElem? (i := 3) rfl
  refine lv_aload_n hx hb dX11_firstTo_0 rfl (lv_at hl 0 rfl) ?_
  refine rg hf hk hw hinX11 0 rfl rfl 0 (by decide) w_0 rfl dX11_firstTo_1 ?_
  refine lv_aload_n hx hb dX11_firstTo_4 rfl (lv_at hl 0 rfl) ?_
  refine rg hf hk hw hinX11 0 rfl rfl 2 (by decide) w_1 rfl dX11_firstTo_5 ?_
  refine mcS hf hk hst hw (c_X11_copies l g os ol (mR stp laws z cnt fogs arms kinds faiths places moved) lr) (va_cwS 2 hts gX11_firstTo_X11_copies rfl rfl rfl hdS_X11_copies ⟨Nat.le_of_ble_eq_true rfl, Nat.le_of_ble_eq_true rfl⟩) [1, 2] rfl rfl rfl hl.1 rfl (Nat.le_of_ble_eq_true rfl) dX11_firstTo_8 ⟨Nat.zero_le _, Nat.zero_le _⟩ (W' := [cob oh 11 [.ref os, .ref ok, .ref ol, .ref ord, .int isk, .ref odd, .ref otp, .int (nI tpd), .ref olt, .int oat, .int obg, .int otk, .int ovl, .ref orw, .int (nI rmn), .ref oso, .ref osz, .ref oit, .ref oho, .ref ohe, .ref otr, .int (nI tcd), .int own_, .int opt], cin g os 51 (mR stp laws z cnt fogs arms kinds faiths places moved), cin g ol 51 (mR stp laws z cnt fogs arms kinds faiths places moved), cin g odd 8 dd]) rfl (fun H locs hw => ?_)
  refine lv_bipush (v := (-3)) hx hb dX11_firstTo_11 (by decide) ?_
  refine lv_istore_n (lv' := [(3, .int (-3)), (0, .ref oh), (1, .int (nI q)), (2, .int deed)]) hx hb dX11_firstTo_13 rfl hl (by decide) rfl (fun ls hl => ?_)
  refine lv_iconst (v := 1) hx hb dX11_firstTo_14 (by decide) ?_
  refine lv_istore (lv' := [(4, .int 1), (3, .int (-3)), (0, .ref oh), (1, .int (nI q)), (2, .int deed)]) hx hb dX11_firstTo_15 hl (by decide) rfl (fun ls hl => ?_)
  have lp_17_0 : ∀ (fu k : Nat) (fnd : Int32) (de : Nat → Int32), k ≤ 60 → 60 + 1 ≤ k + fu → ((fnd = -3 ∧ fsR (itE laws fogs arms (kinds q) stp (faiths q) (places q) (moved q)) deed 60 0 = fsR (itE laws fogs arms (kinds q) stp (faiths q) (places q) (moved q)) deed (60 - k) k) ∨ (¬ fnd = -3 ∧ fsR (itE laws fogs arms (kinds q) stp (faiths q) (places q) (moved q)) deed 60 0 = fnd)) → ∀ (H : Heap) (locs : List Loc), hv g (va_I [cob oh 11 [.ref os, .ref ok, .ref ol, .ref ord, .int isk, .ref odd, .ref otp, .int (nI tpd), .ref olt, .int oat, .int obg, .int otk, .int ovl, .ref orw, .int (nI rmn), .ref oso, .ref osz, .ref oit, .ref oho, .ref ohe, .ref otr, .int (nI tcd), .int own_, .int opt], cin g os 51 (mR stp laws z cnt fogs arms kinds faiths places moved), cin g ol 51 lr, cin g odd 8 dd]) s H locs [cob oh 11 [.ref os, .ref ok, .ref ol, .ref ord, .int isk, .ref odd, .ref otp, .int (nI tpd), .ref olt, .int oat, .int obg, .int otk, .int ovl, .ref orw, .int (nI rmn), .ref oso, .ref osz, .ref oit, .ref oho, .ref ohe, .ref otr, .int (nI tcd), .int own_, .int opt], cin g os 51 (mR (stp + k) laws z cnt fogs arms kinds ((stA laws fogs arms kinds cnt stp faiths places moved k).1) ((stA laws fogs arms kinds cnt stp faiths places moved k).2.1) ((stA laws fogs arms kinds cnt stp faiths places moved k).2.2)), cin g ol 51 (mR stp laws z cnt fogs arms kinds faiths places moved), cin g odd 8 de] → ∀ ls : Array Slot, lv_has ls 5 [(4, .int (nI (k + 1))), (3, .int fnd), (0, .ref oh), (1, .int (nI q)), (2, .int deed)] → W p l e rmX11_firstTo s m ([.ref oh, .int (nI q), .int deed] : List Value).toArray below meth c H locs 0 0 (MQ below (mtS g [cob oh 11 [.ref os, .ref ok, .ref ol, .ref ord, .int isk, .ref odd, .ref otp, .int (nI tpd), .ref olt, .int oat, .int obg, .int otk, .int ovl, .ref orw, .int (nI rmn), .ref oso, .ref osz, .ref oit, .ref oho, .ref ohe, .ref otr, .int (nI tcd), .int own_, .int opt], cin g os 51 (mR stp laws z cnt fogs arms kinds faiths places moved), cin g ol 51 lr, cin g odd 8 dd] (fun rv W => rv = (some (.int (fsR (itE laws fogs arms (kinds q) stp (faiths q) (places q) (moved q)) deed 60 0))) ∧ ∃ (j0 : Nat → Int32) (j1 : Nat → Int32), W = [cob oh 11 [.ref os, .ref ok, .ref ol, .ref ord, .int isk, .ref odd, .ref otp, .int (nI tpd), .ref olt, .int oat, .int obg, .int otk, .int ovl, .ref orw, .int (nI rmn), .ref oso, .ref osz, .ref oit, .ref oho, .ref ohe, .ref otr, .int (nI tcd), .int own_, .int opt], cin g os 51 (mR stp laws z cnt fogs arms kinds faiths places moved), cin g ol 51 j0, cin g odd 8 j1])) ([.ref oh, .int (nI q), .int deed] : List Value).toArray s 0 0 (va_I [cob oh 11 [.ref os, .ref ok, .ref ol, .ref ord, .int isk, .ref odd, .ref otp, .int (nI tpd), .ref olt, .int oat, .int obg, .int otk, .int ovl, .ref orw, .int (nI rmn), .ref oso, .ref osz, .ref oit, .ref oho, .ref ohe, .ref otr, .int (nI tcd), .int own_, .int opt], cin g os 51 (mR stp laws z cnt fogs arms kinds faiths places moved), cin g ol 51 lr, cin g odd 8 dd])) (F0 m 17 ls []) := by
    intro fu
    induction fu with
    | zero =>
      intro k fnd de h1 h2
      exact absurd h2 (by omega)
    | succ fu ih_17 =>
      intro k fnd de hk1_17 hk2_17 eR H locs hw ls hl
      refine lv_iload hx hb dX11_firstTo_17 (lv_at hl 0 rfl) ?_
      refine lv_bipush (v := 60) hx hb dX11_firstTo_19 (by decide) ?_
      refine lv_icmp_gt (tgt := 58) hx hb dX11_firstTo_21 (by decide) (fun c_2 => ?_) (fun c_2 => ?_)
      · have hkE : k = 60 := by have := (nI_ltI (a := 60) (by omega) (by omega)).mp c_2; omega
        have hfin : fnd = fsR (itE laws fogs arms (kinds q) stp (faiths q) (places q) (moved q)) deed 60 0 := by rcases eR with h | h; rw [h.1, h.2, hkE]; rfl; exact h.2.symm
        refine lv_aload_n hx hb dX11_firstTo_58 rfl (lv_at hl 2 rfl) ?_
        refine rg hf hk hw hinX11 0 rfl rfl 2 (by decide) w_1 rfl dX11_firstTo_59 ?_
        refine lv_aload_n hx hb dX11_firstTo_62 rfl (lv_at hl 2 rfl) ?_
        refine rg hf hk hw hinX11 0 rfl rfl 0 (by decide) w_0 rfl dX11_firstTo_63 ?_
        refine mcS hf hk hst hw (c_X11_copies l g ol os (mR stp laws z cnt fogs arms kinds faiths places moved) (mR (stp + k) laws z cnt fogs arms kinds ((stA laws fogs arms kinds cnt stp faiths places moved k).1) ((stA laws fogs arms kinds cnt stp faiths places moved k).2.1) ((stA laws fogs arms kinds cnt stp faiths places moved k).2.2))) (va_cwS 2 hts gX11_firstTo_X11_copies rfl rfl rfl hdS_X11_copies ⟨Nat.le_of_ble_eq_true rfl, Nat.le_of_ble_eq_true rfl⟩) [2, 1] rfl rfl rfl hl.1 rfl (Nat.le_of_ble_eq_true rfl) dX11_firstTo_66 ⟨Nat.zero_le _, Nat.zero_le _⟩ (W' := [cob oh 11 [.ref os, .ref ok, .ref ol, .ref ord, .int isk, .ref odd, .ref otp, .int (nI tpd), .ref olt, .int oat, .int obg, .int otk, .int ovl, .ref orw, .int (nI rmn), .ref oso, .ref osz, .ref oit, .ref oho, .ref ohe, .ref otr, .int (nI tcd), .int own_, .int opt], cin g os 51 (mR stp laws z cnt fogs arms kinds faiths places moved), cin g ol 51 (mR stp laws z cnt fogs arms kinds faiths places moved), cin g odd 8 de]) rfl (fun H locs hw => ?_)
        refine lv_iload_n hx hb dX11_firstTo_69 rfl (lv_at hl 1 rfl) ?_
        exact rE_i hf hr hlk hw ⟨congrArg some (by exact congrArg Value.int hfin), _, _, rfl⟩ (show ([oh, os, ol, odd] : List Nat) = [oh, os, ol, odd] from rfl) dX11_firstTo_70
      · have hkE : k < 60 := by have := Nat.not_lt.mp (fun h => c_2 ((nI_ltI (a := 60) (by omega) (by omega)).mpr h)); omega
        have hm : 60 - k = (59 - k) + 1 := by omega
        refine lv_iload_n hx hb dX11_firstTo_24 rfl (lv_at hl 1 rfl) ?_
        refine lv_bipush (v := (-3)) hx hb dX11_firstTo_25 (by decide) ?_
        refine lv_icmp_ne (tgt := 58) hx hb dX11_firstTo_27 (by decide) (fun c_3 => ?_) (fun c_3 => ?_)
        · have hfin : fnd = fsR (itE laws fogs arms (kinds q) stp (faiths q) (places q) (moved q)) deed 60 0 := by rcases eR with h | h; exact absurd h.1 c_3; exact h.2.symm
          refine lv_aload_n hx hb dX11_firstTo_58 rfl (lv_at hl 2 rfl) ?_
          refine rg hf hk hw hinX11 0 rfl rfl 2 (by decide) w_1 rfl dX11_firstTo_59 ?_
          refine lv_aload_n hx hb dX11_firstTo_62 rfl (lv_at hl 2 rfl) ?_
          refine rg hf hk hw hinX11 0 rfl rfl 0 (by decide) w_0 rfl dX11_firstTo_63 ?_
          refine mcS hf hk hst hw (c_X11_copies l g ol os (mR stp laws z cnt fogs arms kinds faiths places moved) (mR (stp + k) laws z cnt fogs arms kinds ((stA laws fogs arms kinds cnt stp faiths places moved k).1) ((stA laws fogs arms kinds cnt stp faiths places moved k).2.1) ((stA laws fogs arms kinds cnt stp faiths places moved k).2.2))) (va_cwS 2 hts gX11_firstTo_X11_copies rfl rfl rfl hdS_X11_copies ⟨Nat.le_of_ble_eq_true rfl, Nat.le_of_ble_eq_true rfl⟩) [2, 1] rfl rfl rfl hl.1 rfl (Nat.le_of_ble_eq_true rfl) dX11_firstTo_66 ⟨Nat.zero_le _, Nat.zero_le _⟩ (W' := [cob oh 11 [.ref os, .ref ok, .ref ol, .ref ord, .int isk, .ref odd, .ref otp, .int (nI tpd), .ref olt, .int oat, .int obg, .int otk, .int ovl, .ref orw, .int (nI rmn), .ref oso, .ref osz, .ref oit, .ref oho, .ref ohe, .ref otr, .int (nI tcd), .int own_, .int opt], cin g os 51 (mR stp laws z cnt fogs arms kinds faiths places moved), cin g ol 51 (mR stp laws z cnt fogs arms kinds faiths places moved), cin g odd 8 de]) rfl (fun H locs hw => ?_)
          refine lv_iload_n hx hb dX11_firstTo_69 rfl (lv_at hl 1 rfl) ?_
          exact rE_i hf hr hlk hw ⟨congrArg some (by exact congrArg Value.int hfin), _, _, rfl⟩ (show ([oh, os, ol, odd] : List Nat) = [oh, os, ol, odd] from rfl) dX11_firstTo_70
        · have hR2 : fsR (itE laws fogs arms (kinds q) stp (faiths q) (places q) (moved q)) deed 60 0 = fsR (itE laws fogs arms (kinds q) stp (faiths q) (places q) (moved q)) deed (60 - k) k := by rcases eR with h | h; exact h.2; exact absurd c_3 h.1
          refine lv_aload_n hx hb dX11_firstTo_30 rfl (lv_at hl 2 rfl) ?_
          refine mcV hf hk hst hw (c_X11_step1 l g oh os ok ol ord odd otp olt orw oso osz oit oho ohe otr (stp + k) laws z cnt fogs arms kinds ((stA laws fogs arms kinds cnt stp faiths places moved k).1) ((stA laws fogs arms kinds cnt stp faiths places moved k).2.1) ((stA laws fogs arms kinds cnt stp faiths places moved k).2.2) isk tpd oat obg otk ovl rmn tcd own_ opt de (by omega) (by omega) ((stA_ok hpl hmo_ k).1) ((stA_ok hpl hmo_ k).2)) (cwV 0 hts gX11_firstTo_X11_step1 rfl rfl rfl hdV_X11_step1 ⟨Nat.le_of_ble_eq_true rfl, Nat.le_of_ble_eq_true rfl⟩) [0, 1, 3] rfl rfl 0 rfl rfl rfl hl.1 rfl (Nat.le_of_ble_eq_true rfl) dX11_firstTo_31 ⟨Nat.zero_le _, Nat.zero_le _⟩ (W' := [cob oh 11 [.ref os, .ref ok, .ref ol, .ref ord, .int isk, .ref odd, .ref otp, .int (nI tpd), .ref olt, .int oat, .int obg, .int otk, .int ovl, .ref orw, .int (nI rmn), .ref oso, .ref osz, .ref oit, .ref oho, .ref ohe, .ref otr, .int (nI tcd), .int own_, .int opt], cin g os 51 (mR ((stp + k) + 1) laws z cnt fogs arms kinds (goF laws fogs arms (stp + k) kinds ((stA laws fogs arms kinds cnt stp faiths places moved k).1) ((stA laws fogs arms kinds cnt stp faiths places moved k).2.1) cnt) (goP laws fogs arms (stp + k) kinds ((stA laws fogs arms kinds cnt stp faiths places moved k).1) ((stA laws fogs arms kinds cnt stp faiths places moved k).2.1) cnt) (goM laws fogs arms (stp + k) kinds ((stA laws fogs arms kinds cnt stp faiths places moved k).2.1) ((stA laws fogs arms kinds cnt stp faiths places moved k).2.2) cnt)), cin g ol 51 (mR stp laws z cnt fogs arms kinds faiths places moved), cin g odd 8 (goE laws fogs arms (stp + k) kinds ((stA laws fogs arms kinds cnt stp faiths places moved k).1) ((stA laws fogs arms kinds cnt stp faiths places moved k).2.1) de cnt)]) rfl (fun H locs hw => ?_)
          refine lv_aload_n hx hb dX11_firstTo_34 rfl (lv_at hl 2 rfl) ?_
          refine rg hf hk hw hinX11 0 rfl rfl 5 (by decide) w_2 rfl dX11_firstTo_35 ?_
          refine lv_iload_n hx hb dX11_firstTo_38 rfl (lv_at hl 3 rfl) ?_
          refine rij hf hk hw 3 rfl (j := q) (vp_in_nI (by omega) (by omega)) (nI_clamp (by omega)) dX11_firstTo_39 ?_
          refine lv_tope (y := (itE laws fogs arms (kinds q) stp (faiths q) (places q) (moved q)) k) (goE_it hq k) ?_
          refine lv_iload_n hx hb dX11_firstTo_40 rfl (lv_at hl 4 rfl) ?_
          refine lv_icmp_ne (tgt := 49) hx hb dX11_firstTo_41 (by decide) (fun c_4 => ?_) (fun c_4 => ?_)
          · have hnx : ((-3 : Int32) = -3 ∧ fsR (itE laws fogs arms (kinds q) stp (faiths q) (places q) (moved q)) deed 60 0 = fsR (itE laws fogs arms (kinds q) stp (faiths q) (places q) (moved q)) deed (60 - (k + 1)) (k + 1)) ∨ (¬ (-3 : Int32) = -3 ∧ fsR (itE laws fogs arms (kinds q) stp (faiths q) (places q) (moved q)) deed 60 0 = -3) := Or.inl ⟨rfl, by rw [hR2, hm, show 60 - (k + 1) = 59 - k by omega]; exact if_neg c_4⟩
            refine lv_bipush (v := (-3)) hx hb dX11_firstTo_49 (by decide) ?_
            refine lv_istore_n (lv' := [(3, .int (-3)), (4, .int (nI (k + 1))), (0, .ref oh), (1, .int (nI q)), (2, .int deed)]) hx hb dX11_firstTo_51 rfl hl (by decide) rfl (fun ls hl => ?_)
            refine lv_iinc (v := nI (k + 1 + 1)) (lv' := [(4, .int (nI (k + 1 + 1))), (3, .int (-3)), (0, .ref oh), (1, .int (nI q)), (2, .int deed)]) hx hb dX11_firstTo_52 hl (k := 1) rfl (nI_1 _) (by decide) rfl (fun ls hl => ?_)
            refine lv_goto (tgt := 17) hx hb dX11_firstTo_55 (by decide) ?_
            have e_1 : nI (k + 1 + 1) = nI ((k + 1) + 1) := rfl
            rw [e_1] at hl
            have e_2 : mR ((stp + k) + 1) laws z cnt fogs arms kinds (goF laws fogs arms (stp + k) kinds ((stA laws fogs arms kinds cnt stp faiths places moved k).1) ((stA laws fogs arms kinds cnt stp faiths places moved k).2.1) cnt) (goP laws fogs arms (stp + k) kinds ((stA laws fogs arms kinds cnt stp faiths places moved k).1) ((stA laws fogs arms kinds cnt stp faiths places moved k).2.1) cnt) (goM laws fogs arms (stp + k) kinds ((stA laws fogs arms kinds cnt stp faiths places moved k).2.1) ((stA laws fogs arms kinds cnt stp faiths places moved k).2.2) cnt) = mR (stp + (k + 1)) laws z cnt fogs arms kinds ((stA laws fogs arms kinds cnt stp faiths places moved (k + 1)).1) ((stA laws fogs arms kinds cnt stp faiths places moved (k + 1)).2.1) ((stA laws fogs arms kinds cnt stp faiths places moved (k + 1)).2.2) := rfl
            rw [e_2] at hw
            exact ih_17 (k + 1) (-3) (goE laws fogs arms (stp + k) kinds ((stA laws fogs arms kinds cnt stp faiths places moved k).1) ((stA laws fogs arms kinds cnt stp faiths places moved k).2.1) de cnt) (by omega) (by omega) (hnx) _ _ hw _ (lv_sub hl [0, 1, 2, 3, 4] rfl)
          · have hnx : (nI (k + 1) = -3 ∧ fsR (itE laws fogs arms (kinds q) stp (faiths q) (places q) (moved q)) deed 60 0 = fsR (itE laws fogs arms (kinds q) stp (faiths q) (places q) (moved q)) deed (60 - (k + 1)) (k + 1)) ∨ (¬ nI (k + 1) = -3 ∧ fsR (itE laws fogs arms (kinds q) stp (faiths q) (places q) (moved q)) deed 60 0 = nI (k + 1)) := Or.inr ⟨fun h => absurd (show nI (k + 1) < 0 by rw [h]; decide) (nI_pos (by omega)), by rw [hR2, hm]; exact (if_pos c_4).trans (nI_1 k)⟩
            refine lv_iload hx hb dX11_firstTo_44 (lv_at hl 0 rfl) ?_
            refine lv_goto (tgt := 51) hx hb dX11_firstTo_46 (by decide) ?_
            refine lv_istore_n (lv' := [(3, .int (nI (k + 1))), (4, .int (nI (k + 1))), (0, .ref oh), (1, .int (nI q)), (2, .int deed)]) hx hb dX11_firstTo_51 rfl hl (by decide) rfl (fun ls hl => ?_)
            refine lv_iinc (v := nI (k + 1 + 1)) (lv' := [(4, .int (nI (k + 1 + 1))), (3, .int (nI (k + 1))), (0, .ref oh), (1, .int (nI q)), (2, .int deed)]) hx hb dX11_firstTo_52 hl (k := 1) rfl (nI_1 _) (by decide) rfl (fun ls hl => ?_)
            refine lv_goto (tgt := 17) hx hb dX11_firstTo_55 (by decide) ?_
            have e_1 : nI (k + 1 + 1) = nI ((k + 1) + 1) := rfl
            rw [e_1] at hl
            have e_2 : mR ((stp + k) + 1) laws z cnt fogs arms kinds (goF laws fogs arms (stp + k) kinds ((stA laws fogs arms kinds cnt stp faiths places moved k).1) ((stA laws fogs arms kinds cnt stp faiths places moved k).2.1) cnt) (goP laws fogs arms (stp + k) kinds ((stA laws fogs arms kinds cnt stp faiths places moved k).1) ((stA laws fogs arms kinds cnt stp faiths places moved k).2.1) cnt) (goM laws fogs arms (stp + k) kinds ((stA laws fogs arms kinds cnt stp faiths places moved k).2.1) ((stA laws fogs arms kinds cnt stp faiths places moved k).2.2) cnt) = mR (stp + (k + 1)) laws z cnt fogs arms kinds ((stA laws fogs arms kinds cnt stp faiths places moved (k + 1)).1) ((stA laws fogs arms kinds cnt stp faiths places moved (k + 1)).2.1) ((stA laws fogs arms kinds cnt stp faiths places moved (k + 1)).2.2) := rfl
            rw [e_2] at hw
            exact ih_17 (k + 1) (nI (k + 1)) (goE laws fogs arms (stp + k) kinds ((stA laws fogs arms kinds cnt stp faiths places moved k).1) ((stA laws fogs arms kinds cnt stp faiths places moved k).2.1) de cnt) (by omega) (by omega) (hnx) _ _ hw _ (lv_sub hl [0, 1, 2, 3, 4] rfl)
  exact lp_17_0 (60 + 1) 0 (-3) dd (by omega) (by omega) (Or.inl ⟨rfl, rfl⟩) _ _ hw _ (lv_sub hl [0, 1, 2, 3, 4] rfl)
theorem hdV_X11_firstTo : yX11_firstTo.cls = RX11 ∧ yX11_firstTo.cls ≠ "java/lang/invoke/MethodHandle" ∧ yX11_firstTo.cls ≠ "java/lang/invoke/VarHandle" ∧ (parseMethodDescriptor yX11_firstTo.desc).map (fun d => d.parameters.length) = some 2 := by decide +kernel
def f_X11_sits (stp : Nat) (laws : Nat → Int32) (cnt : Nat) (fogs : Nat → Int32) (arms : Nat → Int32) (kinds : Nat → Int32) (faiths : Nat → Int32) (places : Nat → Int32) (moved : Nat → Int32) (goer : Int32) : Int32 := if (f_X8_has cnt goer) = 0 then (-1) else (fsR (itE laws fogs arms (kinds (ix goer)) stp (faiths (ix goer)) (places (ix goer)) (moved (ix goer))) 1 60 0)
abbrev rmX11_sits : Room := { frames := 7, cells := 0, slots := 0, locals := 156 }
set_option maxHeartbeats 4000000 in
set_option maxRecDepth 100000 in
theorem c_X11_sits (l : Launch) (g : GG) (oh : Nat) (os : Nat) (ok : Nat) (ol : Nat) (ord : Nat) (odd : Nat) (otp : Nat) (olt : Nat) (orw : Nat) (oso : Nat) (osz : Nat) (oit : Nat) (oho : Nat) (ohe : Nat) (otr : Nat) (stp : Nat) (laws : Nat → Int32) (z : Int32) (cnt : Nat) (fogs : Nat → Int32) (arms : Nat → Int32) (kinds : Nat → Int32) (faiths : Nat → Int32) (places : Nat → Int32) (moved : Nat → Int32) (isk : Int32) (tpd : Nat) (oat : Int32) (obg : Int32) (otk : Int32) (ovl : Int32) (rmn : Nat) (tcd : Nat) (own_ : Int32) (opt : Int32) (lr : Nat → Int32) (dd : Nat → Int32) (goer : Int32) (hc8 : cnt ≤ 8) (hsp : stp < 2 ^ 29) (hpl : ∀ j, j < cnt → plOk (places j)) (hmo_ : ∀ j, j < cnt → moOk (moved j)) : mtR l g yX11_sits wsX11_sits rmX11_sits [.ref oh, .int goer] [cob oh 11 [.ref os, .ref ok, .ref ol, .ref ord, .int isk, .ref odd, .ref otp, .int (nI tpd), .ref olt, .int oat, .int obg, .int otk, .int ovl, .ref orw, .int (nI rmn), .ref oso, .ref osz, .ref oit, .ref oho, .ref ohe, .ref otr, .int (nI tcd), .int own_, .int opt], cin g os 51 (mR stp laws z cnt fogs arms kinds faiths places moved), cin g ol 51 lr, cin g odd 8 dd] (fun rv W => rv = (some (.int (f_X11_sits stp laws cnt fogs arms kinds faiths places moved goer))) ∧ ∃ (j0 : Nat → Int32) (j1 : Nat → Int32), W = [cob oh 11 [.ref os, .ref ok, .ref ol, .ref ord, .int isk, .ref odd, .ref otp, .int (nI tpd), .ref olt, .int oat, .int obg, .int otk, .int ovl, .ref orw, .int (nI rmn), .ref oso, .ref osz, .ref oit, .ref oho, .ref ohe, .ref otr, .int (nI tcd), .int own_, .int opt], cin g os 51 (mR stp laws z cnt fogs arms kinds faiths places moved), cin g ol 51 j0, cin g odd 8 j1]) := by
  refine mtR.of (cc := cX11_sits) (nL := 2) (ret := (some .int)) (own := RX11) (by decide +kernel) rfl rfl (Nat.le_of_ble_eq_true rfl) (fun p e s m below meth c hf hr hlk _ hk hst hw ls hl => ?_)
  have hx := hf.1
  have hb := hf.2.1
  have hts := hf.2.2.2.2
  have hl : lv_has ls 2 [(0, .ref oh), (1, .int goer)] := hl
  refine lv_aload_n hx hb dX11_sits_0 rfl (lv_at hl 0 rfl) ?_
  refine lv_iload_n hx hb dX11_sits_1 rfl (lv_at hl 1 rfl) ?_
  refine mcV hf hk hst hw (c_X11_isGoer l g oh os ok ol ord odd otp olt orw oso osz oit oho ohe otr stp laws z cnt fogs arms kinds faiths places moved isk tpd oat obg otk ovl rmn tcd own_ opt goer (by omega)) (cwV 1 hts gX11_sits_X11_isGoer rfl rfl rfl hdV_X11_isGoer ⟨Nat.le_of_ble_eq_true rfl, Nat.le_of_ble_eq_true rfl⟩) [0, 1] rfl rfl 0 rfl rfl rfl hl.1 rfl (Nat.le_of_ble_eq_true rfl) dX11_sits_2 ⟨Nat.zero_le _, Nat.zero_le _⟩ (W' := [cob oh 11 [.ref os, .ref ok, .ref ol, .ref ord, .int isk, .ref odd, .ref otp, .int (nI tpd), .ref olt, .int oat, .int obg, .int otk, .int ovl, .ref orw, .int (nI rmn), .ref oso, .ref osz, .ref oit, .ref oho, .ref ohe, .ref otr, .int (nI tcd), .int own_, .int opt], cin g os 51 (mR stp laws z cnt fogs arms kinds faiths places moved), cin g ol 51 lr, cin g odd 8 dd]) rfl (fun H locs hw => ?_)
  refine lv_if_eq (tgt := 17) hx hb dX11_sits_5 (by decide) (fun c_1 => ?_) (fun c_1 => ?_)
  · refine lv_iconst (v := (-1)) hx hb dX11_sits_17 (by decide) ?_
    exact rE_i hf hr hlk hw ⟨congrArg some (by simp only [f_X11_sits, if_pos c_1]), _, _, rfl⟩ (show ([oh, os, ol, odd] : List Nat) = [oh, os, ol, odd] from rfl) dX11_sits_18
  · have hg := has_n hc8 c_1
    have hg2 := hg.2
    refine lv_aload_n hx hb dX11_sits_8 rfl (lv_at hl 0 rfl) ?_
    refine lv_iload_n hx hb dX11_sits_9 rfl (lv_at hl 1 rfl) ?_
    refine lv_tope (y := nI (ix goer)) hg.1 ?_
    refine lv_iconst (v := 1) hx hb dX11_sits_10 (by decide) ?_
    refine mcVF hf hk hst hw (c_X11_firstTo l g oh os ok ol ord odd otp olt orw oso osz oit oho ohe otr stp laws z cnt fogs arms kinds faiths places moved isk tpd oat obg otk ovl rmn tcd own_ opt lr dd (ix goer) 1 (by omega) (by omega) (by assumption) (by assumption) (hg2)) (cwV 2 hts gX11_sits_X11_firstTo rfl rfl rfl hdV_X11_firstTo ⟨Nat.le_of_ble_eq_true rfl, Nat.le_of_ble_eq_true rfl⟩) 0 rfl rfl rfl hl.1 rfl (Nat.le_of_ble_eq_true rfl) dX11_sits_11 ⟨Nat.zero_le _, Nat.zero_le _⟩ (fun rv ws2 hPo H locs hw => ?_)
    obtain ⟨rfl, u2_j0, u2_j1, rfl⟩ := hPo
    refine lv_goto (tgt := 18) hx hb dX11_sits_14 (by decide) ?_
    exact rE_i hf hr hlk hw ⟨congrArg some (by simp only [f_X11_sits, if_neg c_1]), _, _, rfl⟩ (show ([oh, os, ol, odd] : List Nat) = [oh, os, ol, odd] from rfl) dX11_sits_18
def f_X11_back (stp : Nat) (laws : Nat → Int32) (cnt : Nat) (fogs : Nat → Int32) (arms : Nat → Int32) (kinds : Nat → Int32) (faiths : Nat → Int32) (places : Nat → Int32) (moved : Nat → Int32) (goer : Int32) : Int32 := if (f_X8_has cnt goer) = 0 then (-1) else (fsR (itE laws fogs arms (kinds (ix goer)) stp (faiths (ix goer)) (places (ix goer)) (moved (ix goer))) 2 60 0)
abbrev rmX11_back : Room := { frames := 7, cells := 0, slots := 0, locals := 156 }
set_option maxHeartbeats 4000000 in
set_option maxRecDepth 100000 in
theorem c_X11_back (l : Launch) (g : GG) (oh : Nat) (os : Nat) (ok : Nat) (ol : Nat) (ord : Nat) (odd : Nat) (otp : Nat) (olt : Nat) (orw : Nat) (oso : Nat) (osz : Nat) (oit : Nat) (oho : Nat) (ohe : Nat) (otr : Nat) (stp : Nat) (laws : Nat → Int32) (z : Int32) (cnt : Nat) (fogs : Nat → Int32) (arms : Nat → Int32) (kinds : Nat → Int32) (faiths : Nat → Int32) (places : Nat → Int32) (moved : Nat → Int32) (isk : Int32) (tpd : Nat) (oat : Int32) (obg : Int32) (otk : Int32) (ovl : Int32) (rmn : Nat) (tcd : Nat) (own_ : Int32) (opt : Int32) (lr : Nat → Int32) (dd : Nat → Int32) (goer : Int32) (hc8 : cnt ≤ 8) (hsp : stp < 2 ^ 29) (hpl : ∀ j, j < cnt → plOk (places j)) (hmo_ : ∀ j, j < cnt → moOk (moved j)) : mtR l g yX11_back wsX11_back rmX11_back [.ref oh, .int goer] [cob oh 11 [.ref os, .ref ok, .ref ol, .ref ord, .int isk, .ref odd, .ref otp, .int (nI tpd), .ref olt, .int oat, .int obg, .int otk, .int ovl, .ref orw, .int (nI rmn), .ref oso, .ref osz, .ref oit, .ref oho, .ref ohe, .ref otr, .int (nI tcd), .int own_, .int opt], cin g os 51 (mR stp laws z cnt fogs arms kinds faiths places moved), cin g ol 51 lr, cin g odd 8 dd] (fun rv W => rv = (some (.int (f_X11_back stp laws cnt fogs arms kinds faiths places moved goer))) ∧ ∃ (j0 : Nat → Int32) (j1 : Nat → Int32), W = [cob oh 11 [.ref os, .ref ok, .ref ol, .ref ord, .int isk, .ref odd, .ref otp, .int (nI tpd), .ref olt, .int oat, .int obg, .int otk, .int ovl, .ref orw, .int (nI rmn), .ref oso, .ref osz, .ref oit, .ref oho, .ref ohe, .ref otr, .int (nI tcd), .int own_, .int opt], cin g os 51 (mR stp laws z cnt fogs arms kinds faiths places moved), cin g ol 51 j0, cin g odd 8 j1]) := by
  refine mtR.of (cc := cX11_back) (nL := 2) (ret := (some .int)) (own := RX11) (by decide +kernel) rfl rfl (Nat.le_of_ble_eq_true rfl) (fun p e s m below meth c hf hr hlk _ hk hst hw ls hl => ?_)
  have hx := hf.1
  have hb := hf.2.1
  have hts := hf.2.2.2.2
  have hl : lv_has ls 2 [(0, .ref oh), (1, .int goer)] := hl
  refine lv_aload_n hx hb dX11_back_0 rfl (lv_at hl 0 rfl) ?_
  refine lv_iload_n hx hb dX11_back_1 rfl (lv_at hl 1 rfl) ?_
  refine mcV hf hk hst hw (c_X11_isGoer l g oh os ok ol ord odd otp olt orw oso osz oit oho ohe otr stp laws z cnt fogs arms kinds faiths places moved isk tpd oat obg otk ovl rmn tcd own_ opt goer (by omega)) (cwV 1 hts gX11_back_X11_isGoer rfl rfl rfl hdV_X11_isGoer ⟨Nat.le_of_ble_eq_true rfl, Nat.le_of_ble_eq_true rfl⟩) [0, 1] rfl rfl 0 rfl rfl rfl hl.1 rfl (Nat.le_of_ble_eq_true rfl) dX11_back_2 ⟨Nat.zero_le _, Nat.zero_le _⟩ (W' := [cob oh 11 [.ref os, .ref ok, .ref ol, .ref ord, .int isk, .ref odd, .ref otp, .int (nI tpd), .ref olt, .int oat, .int obg, .int otk, .int ovl, .ref orw, .int (nI rmn), .ref oso, .ref osz, .ref oit, .ref oho, .ref ohe, .ref otr, .int (nI tcd), .int own_, .int opt], cin g os 51 (mR stp laws z cnt fogs arms kinds faiths places moved), cin g ol 51 lr, cin g odd 8 dd]) rfl (fun H locs hw => ?_)
  refine lv_if_eq (tgt := 17) hx hb dX11_back_5 (by decide) (fun c_1 => ?_) (fun c_1 => ?_)
  · refine lv_iconst (v := (-1)) hx hb dX11_back_17 (by decide) ?_
    exact rE_i hf hr hlk hw ⟨congrArg some (by simp only [f_X11_back, if_pos c_1]), _, _, rfl⟩ (show ([oh, os, ol, odd] : List Nat) = [oh, os, ol, odd] from rfl) dX11_back_18
  · have hg := has_n hc8 c_1
    have hg2 := hg.2
    refine lv_aload_n hx hb dX11_back_8 rfl (lv_at hl 0 rfl) ?_
    refine lv_iload_n hx hb dX11_back_9 rfl (lv_at hl 1 rfl) ?_
    refine lv_tope (y := nI (ix goer)) hg.1 ?_
    refine lv_iconst (v := 2) hx hb dX11_back_10 (by decide) ?_
    refine mcVF hf hk hst hw (c_X11_firstTo l g oh os ok ol ord odd otp olt orw oso osz oit oho ohe otr stp laws z cnt fogs arms kinds faiths places moved isk tpd oat obg otk ovl rmn tcd own_ opt lr dd (ix goer) 2 (by omega) (by omega) (by assumption) (by assumption) (hg2)) (cwV 2 hts gX11_back_X11_firstTo rfl rfl rfl hdV_X11_firstTo ⟨Nat.le_of_ble_eq_true rfl, Nat.le_of_ble_eq_true rfl⟩) 0 rfl rfl rfl hl.1 rfl (Nat.le_of_ble_eq_true rfl) dX11_back_11 ⟨Nat.zero_le _, Nat.zero_le _⟩ (fun rv ws2 hPo H locs hw => ?_)
    obtain ⟨rfl, u2_j0, u2_j1, rfl⟩ := hPo
    refine lv_goto (tgt := 18) hx hb dX11_back_14 (by decide) ?_
    exact rE_i hf hr hlk hw ⟨congrArg some (by simp only [f_X11_back, if_neg c_1]), _, _, rfl⟩ (show ([oh, os, ol, odd] : List Nat) = [oh, os, ol, odd] from rfl) dX11_back_18
abbrev rmX11_passedBy : Room := { frames := 7, cells := 0, slots := 0, locals := 154 }
set_option maxHeartbeats 4000000 in
set_option maxRecDepth 100000 in
theorem c_X11_passedBy (l : Launch) (g : GG) (oh : Nat) (os : Nat) (ok : Nat) (ol : Nat) (ord : Nat) (odd : Nat) (otp : Nat) (olt : Nat) (orw : Nat) (oso : Nat) (osz : Nat) (oit : Nat) (oho : Nat) (ohe : Nat) (otr : Nat) (stp : Nat) (laws : Nat → Int32) (z : Int32) (cnt : Nat) (fogs : Nat → Int32) (arms : Nat → Int32) (kinds : Nat → Int32) (faiths : Nat → Int32) (places : Nat → Int32) (moved : Nat → Int32) (isk : Int32) (tpd : Nat) (oat : Int32) (obg : Int32) (otk : Int32) (ovl : Int32) (rmn : Nat) (tcd : Nat) (own_ : Int32) (opt : Int32) (lr : Nat → Int32) (dd : Nat → Int32) (n : Nat) (hc8 : cnt ≤ 8) (hsp : stp < 2 ^ 29) (hpl : ∀ j, j < cnt → plOk (places j)) (hmo_ : ∀ j, j < cnt → moOk (moved j)) (hn : n ≤ 60) : mt l g yX11_passedBy wsX11_passedBy rmX11_passedBy [.ref oh, .int (nI n)] [cob oh 11 [.ref os, .ref ok, .ref ol, .ref ord, .int isk, .ref odd, .ref otp, .int (nI tpd), .ref olt, .int oat, .int obg, .int otk, .int ovl, .ref orw, .int (nI rmn), .ref oso, .ref osz, .ref oit, .ref oho, .ref ohe, .ref otr, .int (nI tcd), .int own_, .int opt], cin g os 51 (mR stp laws z cnt fogs arms kinds faiths places moved), cin g ol 51 lr, cin g odd 8 dd] (some (.int (oneTo (thrN laws fogs arms stp n kinds faiths places moved) cnt))) [cob oh 11 [.ref os, .ref ok, .ref ol, .ref ord, .int isk, .ref odd, .ref otp, .int (nI tpd), .ref olt, .int oat, .int obg, .int otk, .int ovl, .ref orw, .int (nI rmn), .ref oso, .ref osz, .ref oit, .ref oho, .ref ohe, .ref otr, .int (nI tcd), .int own_, .int opt], cin g os 51 lr, cin g ol 51 lr, cin g odd 8 (stE laws fogs arms kinds cnt stp faiths places moved dd n)] := by
  refine mt.of (cc := cX11_passedBy) (nL := 3) (ret := (some .int)) (own := RX11) (by decide +kernel) rfl rfl (show ([oh, os, ol, odd] : List Nat) = [oh, os, ol, odd] from rfl) (Nat.le_of_ble_eq_true rfl) (fun p e s m below meth c hf hr hlk _ hk hst hw ls hl => ?_)
  have hx := hf.1
  have hb := hf.2.1
  have hts := hf.2.2.2.2
  have hl : lv_has ls 3 [(0, .ref oh), (1, .int (nI n))] := hl
  have hinX11 : ∀ w ∈ u_ws RX11 TX11 24, w ∈ wsX11_passedBy := fun w h => List.mem_cons_of_mem _ (List.mem_append_right _ h)
  have w_0 : Cond.fieldLink RX11 16 "LightManModel" "laid" "[I" ∈ wsX11_passedBy := List.mem_of_getElem? (i := 1) rfl
  have w_1 : Cond.fieldLink RX11 9 "LightManModel" "s" "[I" ∈ wsX11_passedBy := List.mem_of_getElem? (i := 2) rfl
  refine lv_aload_n hx hb dX11_passedBy_0 rfl (lv_at hl 0 rfl) ?_
  refine lv_iload_n hx hb dX11_passedBy_1 rfl (lv_at hl 1 rfl) ?_
  refine mcV hf hk hst hw (c_X11_goes l g oh os ok ol ord odd otp olt orw oso osz oit oho ohe otr stp laws z cnt fogs arms kinds faiths places moved isk tpd oat obg otk ovl rmn tcd own_ opt dd n (by omega) (by omega) (by omega) (by assumption) (by assumption)) (cwV 1 hts gX11_passedBy_X11_goes rfl rfl rfl hdV_X11_goes ⟨Nat.le_of_ble_eq_true rfl, Nat.le_of_ble_eq_true rfl⟩) [0, 1, 3] rfl rfl 0 rfl rfl rfl hl.1 rfl (Nat.le_of_ble_eq_true rfl) dX11_passedBy_2 ⟨Nat.zero_le _, Nat.zero_le _⟩ (W' := [cob oh 11 [.ref os, .ref ok, .ref ol, .ref ord, .int isk, .ref odd, .ref otp, .int (nI tpd), .ref olt, .int oat, .int obg, .int otk, .int ovl, .ref orw, .int (nI rmn), .ref oso, .ref osz, .ref oit, .ref oho, .ref ohe, .ref otr, .int (nI tcd), .int own_, .int opt], cin g os 51 (mR (stp + n) laws z cnt fogs arms kinds ((stA laws fogs arms kinds cnt stp faiths places moved n).1) ((stA laws fogs arms kinds cnt stp faiths places moved n).2.1) ((stA laws fogs arms kinds cnt stp faiths places moved n).2.2)), cin g ol 51 lr, cin g odd 8 (stE laws fogs arms kinds cnt stp faiths places moved dd n)]) rfl (fun H locs hw => ?_)
  refine lv_aload_n hx hb dX11_passedBy_5 rfl (lv_at hl 0 rfl) ?_
  refine lv_iconst (v := 1) hx hb dX11_passedBy_6 (by decide) ?_
  refine mcV hf hk hst hw (c_X11_setOf1 l g oh os ok ol ord odd otp olt orw oso osz oit oho ohe otr (stp + n) laws z cnt fogs arms kinds ((stA laws fogs arms kinds cnt stp faiths places moved n).1) ((stA laws fogs arms kinds cnt stp faiths places moved n).2.1) ((stA laws fogs arms kinds cnt stp faiths places moved n).2.2) isk tpd oat obg otk ovl rmn tcd own_ opt (by omega) ((stA_ok hpl hmo_ _).1)) (cwV 1 hts gX11_passedBy_X11_setOf rfl rfl rfl hdV_X11_setOf ⟨Nat.le_of_ble_eq_true rfl, Nat.le_of_ble_eq_true rfl⟩) [0, 1] rfl rfl 0 rfl rfl rfl hl.1 rfl (Nat.le_of_ble_eq_true rfl) dX11_passedBy_7 ⟨Nat.zero_le _, Nat.zero_le _⟩ (W' := [cob oh 11 [.ref os, .ref ok, .ref ol, .ref ord, .int isk, .ref odd, .ref otp, .int (nI tpd), .ref olt, .int oat, .int obg, .int otk, .int ovl, .ref orw, .int (nI rmn), .ref oso, .ref osz, .ref oit, .ref oho, .ref ohe, .ref otr, .int (nI tcd), .int own_, .int opt], cin g os 51 (mR (stp + n) laws z cnt fogs arms kinds ((stA laws fogs arms kinds cnt stp faiths places moved n).1) ((stA laws fogs arms kinds cnt stp faiths places moved n).2.1) ((stA laws fogs arms kinds cnt stp faiths places moved n).2.2)), cin g ol 51 lr, cin g odd 8 (stE laws fogs arms kinds cnt stp faiths places moved dd n)]) rfl (fun H locs hw => ?_)
  refine mcS hf hk hst hw (c_X11_ones l g (setTo (thrs ((stA laws fogs arms kinds cnt stp faiths places moved n).2.1)) cnt) (setTo_ix _ hc8)) (va_cwS 1 hts gX11_passedBy_X11_ones rfl rfl rfl hdS_X11_ones ⟨Nat.le_of_ble_eq_true rfl, Nat.le_of_ble_eq_true rfl⟩) [] rfl rfl rfl hl.1 rfl (Nat.le_of_ble_eq_true rfl) dX11_passedBy_10 ⟨Nat.zero_le _, Nat.zero_le _⟩ (W' := [cob oh 11 [.ref os, .ref ok, .ref ol, .ref ord, .int isk, .ref odd, .ref otp, .int (nI tpd), .ref olt, .int oat, .int obg, .int otk, .int ovl, .ref orw, .int (nI rmn), .ref oso, .ref osz, .ref oit, .ref oho, .ref ohe, .ref otr, .int (nI tcd), .int own_, .int opt], cin g os 51 (mR (stp + n) laws z cnt fogs arms kinds ((stA laws fogs arms kinds cnt stp faiths places moved n).1) ((stA laws fogs arms kinds cnt stp faiths places moved n).2.1) ((stA laws fogs arms kinds cnt stp faiths places moved n).2.2)), cin g ol 51 lr, cin g odd 8 (stE laws fogs arms kinds cnt stp faiths places moved dd n)]) rfl (fun H locs hw => ?_)
  refine lv_tope (y := oneTo (thrN laws fogs arms stp n kinds faiths places moved) cnt) (psd hc8) ?_
  refine lv_istore_n (lv' := [(2, .int (oneTo (thrN laws fogs arms stp n kinds faiths places moved) cnt)), (0, .ref oh), (1, .int (nI n))]) hx hb dX11_passedBy_13 rfl hl (by decide) rfl (fun ls hl => ?_)
  refine lv_aload_n hx hb dX11_passedBy_14 rfl (lv_at hl 1 rfl) ?_
  refine rg hf hk hw hinX11 0 rfl rfl 2 (by decide) w_0 rfl dX11_passedBy_15 ?_
  refine lv_aload_n hx hb dX11_passedBy_18 rfl (lv_at hl 1 rfl) ?_
  refine rg hf hk hw hinX11 0 rfl rfl 0 (by decide) w_1 rfl dX11_passedBy_19 ?_
  refine mcS hf hk hst hw (c_X11_copies l g ol os lr (mR (stp + n) laws z cnt fogs arms kinds ((stA laws fogs arms kinds cnt stp faiths places moved n).1) ((stA laws fogs arms kinds cnt stp faiths places moved n).2.1) ((stA laws fogs arms kinds cnt stp faiths places moved n).2.2))) (va_cwS 2 hts gX11_passedBy_X11_copies rfl rfl rfl hdS_X11_copies ⟨Nat.le_of_ble_eq_true rfl, Nat.le_of_ble_eq_true rfl⟩) [2, 1] rfl rfl rfl hl.1 rfl (Nat.le_of_ble_eq_true rfl) dX11_passedBy_22 ⟨Nat.zero_le _, Nat.zero_le _⟩ (W' := [cob oh 11 [.ref os, .ref ok, .ref ol, .ref ord, .int isk, .ref odd, .ref otp, .int (nI tpd), .ref olt, .int oat, .int obg, .int otk, .int ovl, .ref orw, .int (nI rmn), .ref oso, .ref osz, .ref oit, .ref oho, .ref ohe, .ref otr, .int (nI tcd), .int own_, .int opt], cin g os 51 lr, cin g ol 51 lr, cin g odd 8 (stE laws fogs arms kinds cnt stp faiths places moved dd n)]) rfl (fun H locs hw => ?_)
  refine lv_iload_n hx hb dX11_passedBy_25 rfl (lv_at hl 0 rfl) ?_
  exact re_i hf hr hlk hw (rfl) (rfl) dX11_passedBy_26
theorem hdV_X11_passedBy : yX11_passedBy.cls = RX11 ∧ yX11_passedBy.cls ≠ "java/lang/invoke/MethodHandle" ∧ yX11_passedBy.cls ≠ "java/lang/invoke/VarHandle" ∧ (parseMethodDescriptor yX11_passedBy.desc).map (fun d => d.parameters.length) = some 1 := by decide +kernel
def f_X11_passed (stp : Nat) (laws : Nat → Int32) (cnt : Nat) (fogs : Nat → Int32) (arms : Nat → Int32) (kinds : Nat → Int32) (faiths : Nat → Int32) (places : Nat → Int32) (moved : Nat → Int32) (n : Int32) : Int32 := if (nO n 0 60) = 0 then (-1) else (oneTo (thrN laws fogs arms stp (ix n) kinds faiths places moved) cnt)
abbrev rmX11_passed : Room := { frames := 8, cells := 0, slots := 0, locals := 176 }
set_option maxHeartbeats 4000000 in
set_option maxRecDepth 100000 in
theorem c_X11_passed (l : Launch) (g : GG) (oh : Nat) (os : Nat) (ok : Nat) (ol : Nat) (ord : Nat) (odd : Nat) (otp : Nat) (olt : Nat) (orw : Nat) (oso : Nat) (osz : Nat) (oit : Nat) (oho : Nat) (ohe : Nat) (otr : Nat) (stp : Nat) (laws : Nat → Int32) (z : Int32) (cnt : Nat) (fogs : Nat → Int32) (arms : Nat → Int32) (kinds : Nat → Int32) (faiths : Nat → Int32) (places : Nat → Int32) (moved : Nat → Int32) (isk : Int32) (tpd : Nat) (oat : Int32) (obg : Int32) (otk : Int32) (ovl : Int32) (rmn : Nat) (tcd : Nat) (own_ : Int32) (opt : Int32) (lr : Nat → Int32) (dd : Nat → Int32) (n : Int32) (hc8 : cnt ≤ 8) (hsp : stp < 2 ^ 29) (hpl : ∀ j, j < cnt → plOk (places j)) (hmo_ : ∀ j, j < cnt → moOk (moved j)) : mtR l g yX11_passed wsX11_passed rmX11_passed [.ref oh, .int n] [cob oh 11 [.ref os, .ref ok, .ref ol, .ref ord, .int isk, .ref odd, .ref otp, .int (nI tpd), .ref olt, .int oat, .int obg, .int otk, .int ovl, .ref orw, .int (nI rmn), .ref oso, .ref osz, .ref oit, .ref oho, .ref ohe, .ref otr, .int (nI tcd), .int own_, .int opt], cin g os 51 (mR stp laws z cnt fogs arms kinds faiths places moved), cin g ol 51 lr, cin g odd 8 dd] (fun rv W => rv = (some (.int (f_X11_passed stp laws cnt fogs arms kinds faiths places moved n))) ∧ ∃ (j0 : Nat → Int32) (j1 : Nat → Int32), W = [cob oh 11 [.ref os, .ref ok, .ref ol, .ref ord, .int isk, .ref odd, .ref otp, .int (nI tpd), .ref olt, .int oat, .int obg, .int otk, .int ovl, .ref orw, .int (nI rmn), .ref oso, .ref osz, .ref oit, .ref oho, .ref ohe, .ref otr, .int (nI tcd), .int own_, .int opt], cin g os 51 (mR stp laws z cnt fogs arms kinds faiths places moved), cin g ol 51 j0, cin g odd 8 j1]) := by
  refine mtR.of (cc := cX11_passed) (nL := 2) (ret := (some .int)) (own := RX11) (by decide +kernel) rfl rfl (Nat.le_of_ble_eq_true rfl) (fun p e s m below meth c hf hr hlk _ hk hst hw ls hl => ?_)
  have hx := hf.1
  have hb := hf.2.1
  have hts := hf.2.2.2.2
  have hl : lv_has ls 2 [(0, .ref oh), (1, .int n)] := hl
  have hinX11 : ∀ w ∈ u_ws RX11 TX11 24, w ∈ wsX11_passed := fun w h => List.mem_cons_of_mem _ (List.mem_append_right _ h)
  have w_0 : Cond.fieldLink RX11 9 "LightManModel" "s" "[I" ∈ wsX11_passed := List.mem_of_getElem? (i := 1) rfl
  have w_1 : Cond.fieldLink RX11 16 "LightManModel" "laid" "[I" ∈ wsX11_passed := List.mem_of_getElem? (i := 2) rfl
  refine lv_iload_n hx hb dX11_passed_0 rfl (lv_at hl 1 rfl) ?_
  refine lv_iconst (v := 0) hx hb dX11_passed_1 (by decide) ?_
  refine lv_bipush (v := 60) hx hb dX11_passed_2 (by decide) ?_
  refine mcS hf hk hst hw (c_X11_in1 l g n 0 60) (va_cwS 3 hts gX11_passed_X11_in1 rfl rfl rfl hdS_X11_in1 ⟨Nat.le_of_ble_eq_true rfl, Nat.le_of_ble_eq_true rfl⟩) [] rfl rfl rfl hl.1 rfl (Nat.le_of_ble_eq_true rfl) dX11_passed_4 ⟨Nat.zero_le _, Nat.zero_le _⟩ (W' := [cob oh 11 [.ref os, .ref ok, .ref ol, .ref ord, .int isk, .ref odd, .ref otp, .int (nI tpd), .ref olt, .int oat, .int obg, .int otk, .int ovl, .ref orw, .int (nI rmn), .ref oso, .ref osz, .ref oit, .ref oho, .ref ohe, .ref otr, .int (nI tcd), .int own_, .int opt], cin g os 51 (mR stp laws z cnt fogs arms kinds faiths places moved), cin g ol 51 lr, cin g odd 8 dd]) rfl (fun H locs hw => ?_)
  refine lv_if_ne (tgt := 12) hx hb dX11_passed_7 (by decide) (fun c_1 => ?_) (fun c_1 => ?_)
  · have hn := out_n (N := 60) (by decide) (nO_1 c_1)
    have hn2 := hn.2
    refine lv_aload_n hx hb dX11_passed_12 rfl (lv_at hl 0 rfl) ?_
    refine rg hf hk hw hinX11 0 rfl rfl 0 (by decide) w_0 rfl dX11_passed_13 ?_
    refine lv_aload_n hx hb dX11_passed_16 rfl (lv_at hl 0 rfl) ?_
    refine rg hf hk hw hinX11 0 rfl rfl 2 (by decide) w_1 rfl dX11_passed_17 ?_
    refine mcS hf hk hst hw (c_X11_copies l g os ol (mR stp laws z cnt fogs arms kinds faiths places moved) lr) (va_cwS 2 hts gX11_passed_X11_copies rfl rfl rfl hdS_X11_copies ⟨Nat.le_of_ble_eq_true rfl, Nat.le_of_ble_eq_true rfl⟩) [1, 2] rfl rfl rfl hl.1 rfl (Nat.le_of_ble_eq_true rfl) dX11_passed_20 ⟨Nat.zero_le _, Nat.zero_le _⟩ (W' := [cob oh 11 [.ref os, .ref ok, .ref ol, .ref ord, .int isk, .ref odd, .ref otp, .int (nI tpd), .ref olt, .int oat, .int obg, .int otk, .int ovl, .ref orw, .int (nI rmn), .ref oso, .ref osz, .ref oit, .ref oho, .ref ohe, .ref otr, .int (nI tcd), .int own_, .int opt], cin g os 51 (mR stp laws z cnt fogs arms kinds faiths places moved), cin g ol 51 (mR stp laws z cnt fogs arms kinds faiths places moved), cin g odd 8 dd]) rfl (fun H locs hw => ?_)
    refine lv_aload_n hx hb dX11_passed_23 rfl (lv_at hl 0 rfl) ?_
    refine lv_iload_n hx hb dX11_passed_24 rfl (lv_at hl 1 rfl) ?_
    refine lv_tope (y := nI (ix n)) hn.1 ?_
    refine mcV hf hk hst hw (c_X11_passedBy l g oh os ok ol ord odd otp olt orw oso osz oit oho ohe otr stp laws z cnt fogs arms kinds faiths places moved isk tpd oat obg otk ovl rmn tcd own_ opt (mR stp laws z cnt fogs arms kinds faiths places moved) dd (ix n) (by omega) (by omega) (by assumption) (by assumption) (by omega)) (cwV 1 hts gX11_passed_X11_passedBy rfl rfl rfl hdV_X11_passedBy ⟨Nat.le_of_ble_eq_true rfl, Nat.le_of_ble_eq_true rfl⟩) [0, 1, 2, 3] rfl rfl 0 rfl rfl rfl hl.1 rfl (Nat.le_of_ble_eq_true rfl) dX11_passed_25 ⟨Nat.zero_le _, Nat.zero_le _⟩ (W' := [cob oh 11 [.ref os, .ref ok, .ref ol, .ref ord, .int isk, .ref odd, .ref otp, .int (nI tpd), .ref olt, .int oat, .int obg, .int otk, .int ovl, .ref orw, .int (nI rmn), .ref oso, .ref osz, .ref oit, .ref oho, .ref ohe, .ref otr, .int (nI tcd), .int own_, .int opt], cin g os 51 (mR stp laws z cnt fogs arms kinds faiths places moved), cin g ol 51 (mR stp laws z cnt fogs arms kinds faiths places moved), cin g odd 8 (stE laws fogs arms kinds cnt stp faiths places moved dd (ix n))]) rfl (fun H locs hw => ?_)
    exact rE_i hf hr hlk hw ⟨congrArg some (by simp only [f_X11_passed, if_neg c_1]), _, _, rfl⟩ (show ([oh, os, ol, odd] : List Nat) = [oh, os, ol, odd] from rfl) dX11_passed_28
  · refine lv_iconst (v := (-1)) hx hb dX11_passed_10 (by decide) ?_
    exact rE_i hf hr hlk hw ⟨congrArg some (by simp only [f_X11_passed, if_pos c_1]), _, _, rfl⟩ (show ([oh, os, ol, odd] : List Nat) = [oh, os, ol, odd] from rfl) dX11_passed_11
abbrev rmX11_comesWithin : Room := { frames := 7, cells := 0, slots := 0, locals := 154 }
set_option maxHeartbeats 4000000 in
set_option maxRecDepth 100000 in
theorem c_X11_comesWithin (l : Launch) (g : GG) (oh : Nat) (os : Nat) (ok : Nat) (ol : Nat) (ord : Nat) (odd : Nat) (otp : Nat) (olt : Nat) (orw : Nat) (oso : Nat) (osz : Nat) (oit : Nat) (oho : Nat) (ohe : Nat) (otr : Nat) (stp : Nat) (laws : Nat → Int32) (z : Int32) (cnt : Nat) (fogs : Nat → Int32) (arms : Nat → Int32) (kinds : Nat → Int32) (faiths : Nat → Int32) (places : Nat → Int32) (moved : Nat → Int32) (isk : Int32) (tpd : Nat) (oat : Int32) (obg : Int32) (otk : Int32) (ovl : Int32) (rmn : Nat) (tcd : Nat) (own_ : Int32) (opt : Int32) (lr : Nat → Int32) (dd : Nat → Int32) (q : Nat) (n : Nat) (hc8 : cnt ≤ 8) (hsp : stp < 2 ^ 29) (hpl : ∀ j, j < cnt → plOk (places j)) (hmo_ : ∀ j, j < cnt → moOk (moved j)) (hn : n ≤ 60) (hq : q < cnt) : mt l g yX11_comesWithin wsX11_comesWithin rmX11_comesWithin [.ref oh, .int (nI q), .int (nI n)] [cob oh 11 [.ref os, .ref ok, .ref ol, .ref ord, .int isk, .ref odd, .ref otp, .int (nI tpd), .ref olt, .int oat, .int obg, .int otk, .int ovl, .ref orw, .int (nI rmn), .ref oso, .ref osz, .ref oit, .ref oho, .ref ohe, .ref otr, .int (nI tcd), .int own_, .int opt], cin g os 51 (mR stp laws z cnt fogs arms kinds faiths places moved), cin g ol 51 lr, cin g odd 8 dd] (some (.int (thrF (itG laws fogs arms (kinds q) stp (faiths q) (places q) (moved q) n).2.1))) [cob oh 11 [.ref os, .ref ok, .ref ol, .ref ord, .int isk, .ref odd, .ref otp, .int (nI tpd), .ref olt, .int oat, .int obg, .int otk, .int ovl, .ref orw, .int (nI rmn), .ref oso, .ref osz, .ref oit, .ref oho, .ref ohe, .ref otr, .int (nI tcd), .int own_, .int opt], cin g os 51 lr, cin g ol 51 lr, cin g odd 8 (stE laws fogs arms kinds cnt stp faiths places moved dd n)] := by
  refine mt.of (cc := cX11_comesWithin) (nL := 4) (ret := (some .boolean)) (own := RX11) (by decide +kernel) rfl rfl (show ([oh, os, ol, odd] : List Nat) = [oh, os, ol, odd] from rfl) (Nat.le_of_ble_eq_true rfl) (fun p e s m below meth c hf hr hlk _ hk hst hw ls hl => ?_)
  have hx := hf.1
  have hb := hf.2.1
  have hts := hf.2.2.2.2
  have hl : lv_has ls 4 [(0, .ref oh), (1, .int (nI q)), (2, .int (nI n))] := hl
  have hinX11 : ∀ w ∈ u_ws RX11 TX11 24, w ∈ wsX11_comesWithin := fun w h => List.mem_cons_of_mem _ (List.mem_append_right _ h)
  have w_0 : Cond.fieldLink RX11 16 "LightManModel" "laid" "[I" ∈ wsX11_comesWithin := List.mem_of_getElem? (i := 1) rfl
  have w_1 : Cond.fieldLink RX11 9 "LightManModel" "s" "[I" ∈ wsX11_comesWithin := List.mem_of_getElem? (i := 2) rfl
  refine lv_aload_n hx hb dX11_comesWithin_0 rfl (lv_at hl 0 rfl) ?_
  refine lv_iload_n hx hb dX11_comesWithin_1 rfl (lv_at hl 2 rfl) ?_
  refine mcV hf hk hst hw (c_X11_goes l g oh os ok ol ord odd otp olt orw oso osz oit oho ohe otr stp laws z cnt fogs arms kinds faiths places moved isk tpd oat obg otk ovl rmn tcd own_ opt dd n (by omega) (by omega) (by omega) (by assumption) (by assumption)) (cwV 1 hts gX11_comesWithin_X11_goes rfl rfl rfl hdV_X11_goes ⟨Nat.le_of_ble_eq_true rfl, Nat.le_of_ble_eq_true rfl⟩) [0, 1, 3] rfl rfl 0 rfl rfl rfl hl.1 rfl (Nat.le_of_ble_eq_true rfl) dX11_comesWithin_2 ⟨Nat.zero_le _, Nat.zero_le _⟩ (W' := [cob oh 11 [.ref os, .ref ok, .ref ol, .ref ord, .int isk, .ref odd, .ref otp, .int (nI tpd), .ref olt, .int oat, .int obg, .int otk, .int ovl, .ref orw, .int (nI rmn), .ref oso, .ref osz, .ref oit, .ref oho, .ref ohe, .ref otr, .int (nI tcd), .int own_, .int opt], cin g os 51 (mR (stp + n) laws z cnt fogs arms kinds ((stA laws fogs arms kinds cnt stp faiths places moved n).1) ((stA laws fogs arms kinds cnt stp faiths places moved n).2.1) ((stA laws fogs arms kinds cnt stp faiths places moved n).2.2)), cin g ol 51 lr, cin g odd 8 (stE laws fogs arms kinds cnt stp faiths places moved dd n)]) rfl (fun H locs hw => ?_)
  refine lv_aload_n hx hb dX11_comesWithin_5 rfl (lv_at hl 0 rfl) ?_
  refine lv_iload_n hx hb dX11_comesWithin_6 rfl (lv_at hl 1 rfl) ?_
  refine mcV hf hk hst hw (c_X11_isThrough l g oh os ok ol ord odd otp olt orw oso osz oit oho ohe otr (stp + n) laws z cnt fogs arms kinds ((stA laws fogs arms kinds cnt stp faiths places moved n).1) ((stA laws fogs arms kinds cnt stp faiths places moved n).2.1) ((stA laws fogs arms kinds cnt stp faiths places moved n).2.2) isk tpd oat obg otk ovl rmn tcd own_ opt q (by omega) ((stA_ok hpl hmo_ _).1 _ hq)) (cwV 1 hts gX11_comesWithin_X11_isThrough rfl rfl rfl hdV_X11_isThrough ⟨Nat.le_of_ble_eq_true rfl, Nat.le_of_ble_eq_true rfl⟩) [0, 1] rfl rfl 0 rfl rfl rfl hl.1 rfl (Nat.le_of_ble_eq_true rfl) dX11_comesWithin_7 ⟨Nat.zero_le _, Nat.zero_le _⟩ (W' := [cob oh 11 [.ref os, .ref ok, .ref ol, .ref ord, .int isk, .ref odd, .ref otp, .int (nI tpd), .ref olt, .int oat, .int obg, .int otk, .int ovl, .ref orw, .int (nI rmn), .ref oso, .ref osz, .ref oit, .ref oho, .ref ohe, .ref otr, .int (nI tcd), .int own_, .int opt], cin g os 51 (mR (stp + n) laws z cnt fogs arms kinds ((stA laws fogs arms kinds cnt stp faiths places moved n).1) ((stA laws fogs arms kinds cnt stp faiths places moved n).2.1) ((stA laws fogs arms kinds cnt stp faiths places moved n).2.2)), cin g ol 51 lr, cin g odd 8 (stE laws fogs arms kinds cnt stp faiths places moved dd n)]) rfl (fun H locs hw => ?_)
  refine lv_tope (y := thrF (itG laws fogs arms (kinds q) stp (faiths q) (places q) (moved q) n).2.1) (by rw [(stA_it hq n).2.1]) ?_
  refine lv_istore_n (lv' := [(3, .int (thrF (itG laws fogs arms (kinds q) stp (faiths q) (places q) (moved q) n).2.1)), (0, .ref oh), (1, .int (nI q)), (2, .int (nI n))]) hx hb dX11_comesWithin_10 rfl hl (by decide) rfl (fun ls hl => ?_)
  refine lv_aload_n hx hb dX11_comesWithin_11 rfl (lv_at hl 1 rfl) ?_
  refine rg hf hk hw hinX11 0 rfl rfl 2 (by decide) w_0 rfl dX11_comesWithin_12 ?_
  refine lv_aload_n hx hb dX11_comesWithin_15 rfl (lv_at hl 1 rfl) ?_
  refine rg hf hk hw hinX11 0 rfl rfl 0 (by decide) w_1 rfl dX11_comesWithin_16 ?_
  refine mcS hf hk hst hw (c_X11_copies l g ol os lr (mR (stp + n) laws z cnt fogs arms kinds ((stA laws fogs arms kinds cnt stp faiths places moved n).1) ((stA laws fogs arms kinds cnt stp faiths places moved n).2.1) ((stA laws fogs arms kinds cnt stp faiths places moved n).2.2))) (va_cwS 2 hts gX11_comesWithin_X11_copies rfl rfl rfl hdS_X11_copies ⟨Nat.le_of_ble_eq_true rfl, Nat.le_of_ble_eq_true rfl⟩) [2, 1] rfl rfl rfl hl.1 rfl (Nat.le_of_ble_eq_true rfl) dX11_comesWithin_19 ⟨Nat.zero_le _, Nat.zero_le _⟩ (W' := [cob oh 11 [.ref os, .ref ok, .ref ol, .ref ord, .int isk, .ref odd, .ref otp, .int (nI tpd), .ref olt, .int oat, .int obg, .int otk, .int ovl, .ref orw, .int (nI rmn), .ref oso, .ref osz, .ref oit, .ref oho, .ref ohe, .ref otr, .int (nI tcd), .int own_, .int opt], cin g os 51 lr, cin g ol 51 lr, cin g odd 8 (stE laws fogs arms kinds cnt stp faiths places moved dd n)]) rfl (fun H locs hw => ?_)
  refine lv_iload_n hx hb dX11_comesWithin_22 rfl (lv_at hl 0 rfl) ?_
  exact re_z hf hr hlk hw (nar_z (thr_01 _)) (rfl) (rfl) dX11_comesWithin_23
abbrev rmX11_armsFor : Room := { frames := 8, cells := 0, slots := 0, locals := 176 }
set_option maxHeartbeats 4000000 in
set_option maxRecDepth 100000 in
theorem c_X11_armsFor (l : Launch) (g : GG) (oh : Nat) (os : Nat) (ok : Nat) (ol : Nat) (ord : Nat) (odd : Nat) (otp : Nat) (olt : Nat) (orw : Nat) (oso : Nat) (osz : Nat) (oit : Nat) (oho : Nat) (ohe : Nat) (otr : Nat) (stp : Nat) (laws : Nat → Int32) (z : Int32) (cnt : Nat) (fogs : Nat → Int32) (arms : Nat → Int32) (kinds : Nat → Int32) (faiths : Nat → Int32) (places : Nat → Int32) (moved : Nat → Int32) (isk : Int32) (tpd : Nat) (oat : Int32) (obg : Int32) (otk : Int32) (ovl : Int32) (rmn : Nat) (tcd : Nat) (own_ : Int32) (opt : Int32) (lr : Nat → Int32) (dd : Nat → Int32) (rest : Int32) (n : Int32) (hc8 : cnt ≤ 8) (hsp : stp < 2 ^ 29) (hpl : ∀ j, j < cnt → plOk (places j)) (hmo_ : ∀ j, j < cnt → moOk (moved j)) : mtR l g yX11_armsFor wsX11_armsFor rmX11_armsFor [.ref oh, .int rest, .int n] [cob oh 11 [.ref os, .ref ok, .ref ol, .ref ord, .int isk, .ref odd, .ref otp, .int (nI tpd), .ref olt, .int oat, .int obg, .int otk, .int ovl, .ref orw, .int (nI rmn), .ref oso, .ref osz, .ref oit, .ref oho, .ref ohe, .ref otr, .int (nI tcd), .int own_, .int opt], cin g os 51 (mR stp laws z cnt fogs arms kinds faiths places moved), cin g ol 51 lr, cin g odd 8 dd] (fun rv W => rv = (some (.int (if f_X10_isOutside rest 0 5 = 0 then (if f_X10_isOutside n 1 40 = 0 then (mxB (armV laws fogs arms (ix rest) stp (ix n) kinds faiths places moved cnt) 10).1 else -1) else -1))) ∧ ∃ (j0 : Nat → Int32) (j1 : Nat → Int32), W = [cob oh 11 [.ref os, .ref ok, .ref ol, .ref ord, .int isk, .ref odd, .ref otp, .int (nI tpd), .ref olt, .int oat, .int obg, .int otk, .int ovl, .ref orw, .int (nI rmn), .ref oso, .ref osz, .ref oit, .ref oho, .ref ohe, .ref otr, .int (nI tcd), .int own_, .int opt], cin g os 51 (mR stp laws z cnt fogs arms kinds faiths places moved), cin g ol 51 j0, cin g odd 8 j1]) := by
  refine mtR.of (cc := cX11_armsFor) (nL := 7) (ret := (some .int)) (own := RX11) (by decide +kernel) rfl rfl (Nat.le_of_ble_eq_true rfl) (fun p e s m below meth c hf hr hlk _ hk hst hw ls hl => ?_)
  have hx := hf.1
  have hb := hf.2.1
  have hts := hf.2.2.2.2
  have hl : lv_has ls 7 [(0, .ref oh), (1, .int rest), (2, .int n)] := hl
  have hinX11 : ∀ w ∈ u_ws RX11 TX11 24, w ∈ wsX11_armsFor := fun w h => List.mem_cons_of_mem _ (List.mem_append_right _ h)
  have w_0 : Cond.fieldLink RX11 9 "LightManModel" "s" "[I" ∈ wsX11_armsFor := List.mem_of_getElem? (i := 1) rfl
  have w_1 : Cond.fieldLink RX11 16 "LightManModel" "laid" "[I" ∈ wsX11_armsFor := List.mem_of_getElem? (i := 2) rfl
  refine lv_iload_n hx hb dX11_armsFor_0 rfl (lv_at hl 1 rfl) ?_
  refine mcS hf hk hst hw (c_X11_isRest l g rest) (va_cwS 1 hts gX11_armsFor_X11_isRest rfl rfl rfl hdS_X11_isRest ⟨Nat.le_of_ble_eq_true rfl, Nat.le_of_ble_eq_true rfl⟩) [] rfl rfl rfl hl.1 rfl (Nat.le_of_ble_eq_true rfl) dX11_armsFor_1 ⟨Nat.zero_le _, Nat.zero_le _⟩ (W' := [cob oh 11 [.ref os, .ref ok, .ref ol, .ref ord, .int isk, .ref odd, .ref otp, .int (nI tpd), .ref olt, .int oat, .int obg, .int otk, .int ovl, .ref orw, .int (nI rmn), .ref oso, .ref osz, .ref oit, .ref oho, .ref ohe, .ref otr, .int (nI tcd), .int own_, .int opt], cin g os 51 (mR stp laws z cnt fogs arms kinds faiths places moved), cin g ol 51 lr, cin g odd 8 dd]) rfl (fun H locs hw => ?_)
  refine lv_if_eq (tgt := 17) hx hb dX11_armsFor_4 (by decide) (fun c_1 => ?_) (fun c_1 => ?_)
  · refine lv_iconst (v := (-1)) hx hb dX11_armsFor_17 (by decide) ?_
    exact rE_i hf hr hlk hw ⟨congrArg some (by simp only [if_neg (nO_0 c_1)]), _, _, rfl⟩ (show ([oh, os, ol, odd] : List Nat) = [oh, os, ol, odd] from rfl) dX11_armsFor_18
  · have hr_ := out_n (N := 5) (by decide) (nO_1 c_1)
    have hr_2 := hr_.2
    refine lv_iload_n hx hb dX11_armsFor_7 rfl (lv_at hl 2 rfl) ?_
    refine lv_iconst (v := 1) hx hb dX11_armsFor_8 (by decide) ?_
    refine lv_bipush (v := 40) hx hb dX11_armsFor_9 (by decide) ?_
    refine mcS hf hk hst hw (c_X11_in1 l g n 1 40) (va_cwS 3 hts gX11_armsFor_X11_in1 rfl rfl rfl hdS_X11_in1 ⟨Nat.le_of_ble_eq_true rfl, Nat.le_of_ble_eq_true rfl⟩) [] rfl rfl rfl hl.1 rfl (Nat.le_of_ble_eq_true rfl) dX11_armsFor_11 ⟨Nat.zero_le _, Nat.zero_le _⟩ (W' := [cob oh 11 [.ref os, .ref ok, .ref ol, .ref ord, .int isk, .ref odd, .ref otp, .int (nI tpd), .ref olt, .int oat, .int obg, .int otk, .int ovl, .ref orw, .int (nI rmn), .ref oso, .ref osz, .ref oit, .ref oho, .ref ohe, .ref otr, .int (nI tcd), .int own_, .int opt], cin g os 51 (mR stp laws z cnt fogs arms kinds faiths places moved), cin g ol 51 lr, cin g odd 8 dd]) rfl (fun H locs hw => ?_)
    refine lv_if_ne (tgt := 19) hx hb dX11_armsFor_14 (by decide) (fun c_2 => ?_) (fun c_2 => ?_)
    · have hn := out_n1 (M := 1) (N := 40) (by decide) (by decide) (nO_1 c_2)
      have hn2 := hn.2.1
      have hn3 := hn.2.2
      refine lv_aload_n hx hb dX11_armsFor_19 rfl (lv_at hl 0 rfl) ?_
      refine rg hf hk hw hinX11 0 rfl rfl 0 (by decide) w_0 rfl dX11_armsFor_20 ?_
      refine lv_aload_n hx hb dX11_armsFor_23 rfl (lv_at hl 0 rfl) ?_
      refine rg hf hk hw hinX11 0 rfl rfl 2 (by decide) w_1 rfl dX11_armsFor_24 ?_
      refine mcS hf hk hst hw (c_X11_copies l g os ol (mR stp laws z cnt fogs arms kinds faiths places moved) lr) (va_cwS 2 hts gX11_armsFor_X11_copies rfl rfl rfl hdS_X11_copies ⟨Nat.le_of_ble_eq_true rfl, Nat.le_of_ble_eq_true rfl⟩) [1, 2] rfl rfl rfl hl.1 rfl (Nat.le_of_ble_eq_true rfl) dX11_armsFor_27 ⟨Nat.zero_le _, Nat.zero_le _⟩ (W' := [cob oh 11 [.ref os, .ref ok, .ref ol, .ref ord, .int isk, .ref odd, .ref otp, .int (nI tpd), .ref olt, .int oat, .int obg, .int otk, .int ovl, .ref orw, .int (nI rmn), .ref oso, .ref osz, .ref oit, .ref oho, .ref ohe, .ref otr, .int (nI tcd), .int own_, .int opt], cin g os 51 (mR stp laws z cnt fogs arms kinds faiths places moved), cin g ol 51 (mR stp laws z cnt fogs arms kinds faiths places moved), cin g odd 8 dd]) rfl (fun H locs hw => ?_)
      refine lv_iconst (v := 0) hx hb dX11_armsFor_30 (by decide) ?_
      refine lv_istore_n (lv' := [(3, .int 0), (0, .ref oh), (1, .int rest), (2, .int n)]) hx hb dX11_armsFor_31 rfl hl (by decide) rfl (fun ls hl => ?_)
      refine lv_iconst (v := (-1)) hx hb dX11_armsFor_32 (by decide) ?_
      refine lv_istore (lv' := [(4, .int (-1)), (3, .int 0), (0, .ref oh), (1, .int rest), (2, .int n)]) hx hb dX11_armsFor_33 hl (by decide) rfl (fun ls hl => ?_)
      refine lv_iconst (v := 0) hx hb dX11_armsFor_35 (by decide) ?_
      refine lv_istore (lv' := [(5, .int 0), (4, .int (-1)), (3, .int 0), (0, .ref oh), (1, .int rest), (2, .int n)]) hx hb dX11_armsFor_36 hl (by decide) rfl (fun ls hl => ?_)
      have lp_38_2 : ∀ (fu k : Nat) (de : Nat → Int32), k ≤ 10 → 10 + 1 ≤ k + fu → ∀ (H : Heap) (locs : List Loc), hv g (va_I [cob oh 11 [.ref os, .ref ok, .ref ol, .ref ord, .int isk, .ref odd, .ref otp, .int (nI tpd), .ref olt, .int oat, .int obg, .int otk, .int ovl, .ref orw, .int (nI rmn), .ref oso, .ref osz, .ref oit, .ref oho, .ref ohe, .ref otr, .int (nI tcd), .int own_, .int opt], cin g os 51 (mR stp laws z cnt fogs arms kinds faiths places moved), cin g ol 51 lr, cin g odd 8 dd]) s H locs [cob oh 11 [.ref os, .ref ok, .ref ol, .ref ord, .int isk, .ref odd, .ref otp, .int (nI tpd), .ref olt, .int oat, .int obg, .int otk, .int ovl, .ref orw, .int (nI rmn), .ref oso, .ref osz, .ref oit, .ref oho, .ref ohe, .ref otr, .int (nI tcd), .int own_, .int opt], cin g os 51 (mR stp laws z cnt fogs arms kinds faiths places moved), cin g ol 51 (mR stp laws z cnt fogs arms kinds faiths places moved), cin g odd 8 de] → ∀ ls : Array Slot, lv_has ls 7 [(5, .int (nI k)), (4, .int ((mxB (armV laws fogs arms (ix rest) stp (ix n) kinds faiths places moved cnt) k).2)), (3, .int ((mxB (armV laws fogs arms (ix rest) stp (ix n) kinds faiths places moved cnt) k).1)), (0, .ref oh), (1, .int rest), (2, .int n)] → W p l e rmX11_armsFor s m ([.ref oh, .int rest, .int n] : List Value).toArray below meth c H locs 0 0 (MQ below (mtS g [cob oh 11 [.ref os, .ref ok, .ref ol, .ref ord, .int isk, .ref odd, .ref otp, .int (nI tpd), .ref olt, .int oat, .int obg, .int otk, .int ovl, .ref orw, .int (nI rmn), .ref oso, .ref osz, .ref oit, .ref oho, .ref ohe, .ref otr, .int (nI tcd), .int own_, .int opt], cin g os 51 (mR stp laws z cnt fogs arms kinds faiths places moved), cin g ol 51 lr, cin g odd 8 dd] (fun rv W => rv = (some (.int (if f_X10_isOutside rest 0 5 = 0 then (if f_X10_isOutside n 1 40 = 0 then (mxB (armV laws fogs arms (ix rest) stp (ix n) kinds faiths places moved cnt) 10).1 else -1) else -1))) ∧ ∃ (j0 : Nat → Int32) (j1 : Nat → Int32), W = [cob oh 11 [.ref os, .ref ok, .ref ol, .ref ord, .int isk, .ref odd, .ref otp, .int (nI tpd), .ref olt, .int oat, .int obg, .int otk, .int ovl, .ref orw, .int (nI rmn), .ref oso, .ref osz, .ref oit, .ref oho, .ref ohe, .ref otr, .int (nI tcd), .int own_, .int opt], cin g os 51 (mR stp laws z cnt fogs arms kinds faiths places moved), cin g ol 51 j0, cin g odd 8 j1])) ([.ref oh, .int rest, .int n] : List Value).toArray s 0 0 (va_I [cob oh 11 [.ref os, .ref ok, .ref ol, .ref ord, .int isk, .ref odd, .ref otp, .int (nI tpd), .ref olt, .int oat, .int obg, .int otk, .int ovl, .ref orw, .int (nI rmn), .ref oso, .ref osz, .ref oit, .ref oho, .ref ohe, .ref otr, .int (nI tcd), .int own_, .int opt], cin g os 51 (mR stp laws z cnt fogs arms kinds faiths places moved), cin g ol 51 lr, cin g odd 8 dd])) (F0 m 38 ls []) := by
        intro fu
        induction fu with
        | zero =>
          intro k de h1 h2
          exact absurd h2 (by omega)
        | succ fu ih_38 =>
          intro k de hk1_38 hk2_38 H locs hw ls hl
          refine lv_iload hx hb dX11_armsFor_38 (lv_at hl 0 rfl) ?_
          refine lv_bipush (v := 9) hx hb dX11_armsFor_40 (by decide) ?_
          refine lv_icmp_gt (tgt := 99) hx hb dX11_armsFor_42 (by decide) (fun c_4 => ?_) (fun c_4 => ?_)
          · have hkE : k = 10 := by have := (nI_ltI (a := 9) (by omega) (by omega)).mp c_4; omega
            refine lv_iload_n hx hb dX11_armsFor_99 rfl (lv_at hl 2 rfl) ?_
            exact rE_i hf hr hlk hw ⟨congrArg some (by simp only [if_pos (nO_1 c_1), if_pos (nO_1 c_2), hkE]), _, _, rfl⟩ (show ([oh, os, ol, odd] : List Nat) = [oh, os, ol, odd] from rfl) dX11_armsFor_100
          · have hkE : k < 10 := by have := Nat.not_lt.mp (fun h => c_4 ((nI_ltI (a := 9) (by omega) (by omega)).mpr h)); omega
            refine lv_aload_n hx hb dX11_armsFor_45 rfl (lv_at hl 3 rfl) ?_
            refine rg hf hk hw hinX11 0 rfl rfl 0 (by decide) w_0 rfl dX11_armsFor_46 ?_
            refine lv_bipush (v := 13) hx hb dX11_armsFor_49 (by decide) ?_
            refine lv_iload_n hx hb dX11_armsFor_51 rfl (lv_at hl 4 rfl) ?_
            refine lv_tope (y := nI (ix rest)) hr_.1 ?_
            refine lv_iadd hx hb dX11_armsFor_52 ?_
            refine lv_tope (y := nI (13 + (ix rest))) (nI_add 13 _) ?_
            refine lv_iload hx hb dX11_armsFor_53 (lv_at hl 0 rfl) ?_
            refine rse hf hk hw 1 rfl (j := 13 + (ix rest)) (vp_in_nI (by omega) (by omega)) (nI_clamp (by omega)) (mU_arm (r := ix rest) (by omega)) dX11_armsFor_55 (W' := [cob oh 11 [.ref os, .ref ok, .ref ol, .ref ord, .int isk, .ref odd, .ref otp, .int (nI tpd), .ref olt, .int oat, .int obg, .int otk, .int ovl, .ref orw, .int (nI rmn), .ref oso, .ref osz, .ref oit, .ref oho, .ref ohe, .ref otr, .int (nI tcd), .int own_, .int opt], cin g os 51 (mR stp laws z cnt fogs (upd arms (ix rest) (nI k)) kinds faiths places moved), cin g ol 51 (mR stp laws z cnt fogs arms kinds faiths places moved), cin g odd 8 de]) rfl (fun H locs hw => ?_)
            refine lv_aload_n hx hb dX11_armsFor_56 rfl (lv_at hl 3 rfl) ?_
            refine lv_iload_n hx hb dX11_armsFor_57 rfl (lv_at hl 5 rfl) ?_
            refine lv_tope (y := nI (ix n)) hn.1 ?_
            refine mcV hf hk hst hw (c_X11_passedBy l g oh os ok ol ord odd otp olt orw oso osz oit oho ohe otr stp laws z cnt fogs (upd arms (ix rest) (nI k)) kinds faiths places moved isk tpd oat obg otk ovl rmn tcd own_ opt (mR stp laws z cnt fogs arms kinds faiths places moved) de (ix n) (by omega) (by omega) (by assumption) (by assumption) (by omega)) (cwV 1 hts gX11_armsFor_X11_passedBy rfl rfl rfl hdV_X11_passedBy ⟨Nat.le_of_ble_eq_true rfl, Nat.le_of_ble_eq_true rfl⟩) [0, 1, 2, 3] rfl rfl 0 rfl rfl rfl hl.1 rfl (Nat.le_of_ble_eq_true rfl) dX11_armsFor_58 ⟨Nat.zero_le _, Nat.zero_le _⟩ (W' := [cob oh 11 [.ref os, .ref ok, .ref ol, .ref ord, .int isk, .ref odd, .ref otp, .int (nI tpd), .ref olt, .int oat, .int obg, .int otk, .int ovl, .ref orw, .int (nI rmn), .ref oso, .ref osz, .ref oit, .ref oho, .ref ohe, .ref otr, .int (nI tcd), .int own_, .int opt], cin g os 51 (mR stp laws z cnt fogs arms kinds faiths places moved), cin g ol 51 (mR stp laws z cnt fogs arms kinds faiths places moved), cin g odd 8 (stE laws fogs (upd arms (ix rest) (nI k)) kinds cnt stp faiths places moved de (ix n))]) rfl (fun H locs hw => ?_)
            refine lv_tope (y := (armV laws fogs arms (ix rest) stp (ix n) kinds faiths places moved cnt) k) (rfl) ?_
            refine lv_istore (lv' := [(6, .int ((armV laws fogs arms (ix rest) stp (ix n) kinds faiths places moved cnt) k)), (5, .int (nI k)), (4, .int ((mxB (armV laws fogs arms (ix rest) stp (ix n) kinds faiths places moved cnt) k).2)), (3, .int ((mxB (armV laws fogs arms (ix rest) stp (ix n) kinds faiths places moved cnt) k).1)), (0, .ref oh), (1, .int rest), (2, .int n)]) hx hb dX11_armsFor_61 hl (by decide) rfl (fun ls hl => ?_)
            refine lv_iload hx hb dX11_armsFor_63 (lv_at hl 0 rfl) ?_
            refine lv_iload hx hb dX11_armsFor_65 (lv_at hl 2 rfl) ?_
            refine lv_icmp_le (tgt := 75) hx hb dX11_armsFor_67 (by decide) (fun c_5 => ?_) (fun c_5 => ?_)
            · refine lv_iload_n hx hb dX11_armsFor_75 rfl (lv_at hl 3 rfl) ?_
              refine lv_istore_n (lv' := [(3, .int ((mxB (armV laws fogs arms (ix rest) stp (ix n) kinds faiths places moved cnt) k).1)), (6, .int ((armV laws fogs arms (ix rest) stp (ix n) kinds faiths places moved cnt) k)), (5, .int (nI k)), (4, .int ((mxB (armV laws fogs arms (ix rest) stp (ix n) kinds faiths places moved cnt) k).2)), (0, .ref oh), (1, .int rest), (2, .int n)]) hx hb dX11_armsFor_76 rfl hl (by decide) rfl (fun ls hl => ?_)
              refine lv_iload hx hb dX11_armsFor_77 (lv_at hl 1 rfl) ?_
              refine lv_iload hx hb dX11_armsFor_79 (lv_at hl 3 rfl) ?_
              refine lv_icmp_le (tgt := 89) hx hb dX11_armsFor_81 (by decide) (fun _ => ?_) (fun q => absurd (c_5) q)
              refine lv_iload hx hb dX11_armsFor_89 (lv_at hl 3 rfl) ?_
              refine lv_istore (lv' := [(4, .int ((mxB (armV laws fogs arms (ix rest) stp (ix n) kinds faiths places moved cnt) k).2)), (3, .int ((mxB (armV laws fogs arms (ix rest) stp (ix n) kinds faiths places moved cnt) k).1)), (6, .int ((armV laws fogs arms (ix rest) stp (ix n) kinds faiths places moved cnt) k)), (5, .int (nI k)), (0, .ref oh), (1, .int rest), (2, .int n)]) hx hb dX11_armsFor_91 hl (by decide) rfl (fun ls hl => ?_)
              refine lv_iinc (v := nI (k + 1)) (lv' := [(5, .int (nI (k + 1))), (4, .int ((mxB (armV laws fogs arms (ix rest) stp (ix n) kinds faiths places moved cnt) k).2)), (3, .int ((mxB (armV laws fogs arms (ix rest) stp (ix n) kinds faiths places moved cnt) k).1)), (6, .int ((armV laws fogs arms (ix rest) stp (ix n) kinds faiths places moved cnt) k)), (0, .ref oh), (1, .int rest), (2, .int n)]) hx hb dX11_armsFor_93 hl (k := 3) rfl (nI_1 _) (by decide) rfl (fun ls hl => ?_)
              refine lv_goto (tgt := 38) hx hb dX11_armsFor_96 (by decide) ?_
              have e_1 : (mxB (armV laws fogs arms (ix rest) stp (ix n) kinds faiths places moved cnt) k).2 = (mxB (armV laws fogs arms (ix rest) stp (ix n) kinds faiths places moved cnt) (k + 1)).2 := (congrArg Prod.snd (if_pos (show (armV laws fogs arms (ix rest) stp (ix n) kinds faiths places moved cnt) k ≤ (mxB (armV laws fogs arms (ix rest) stp (ix n) kinds faiths places moved cnt) k).2 from c_5) : (if (armV laws fogs arms (ix rest) stp (ix n) kinds faiths places moved cnt) k ≤ (mxB (armV laws fogs arms (ix rest) stp (ix n) kinds faiths places moved cnt) k).2 then mxB (armV laws fogs arms (ix rest) stp (ix n) kinds faiths places moved cnt) k else (nI k, (armV laws fogs arms (ix rest) stp (ix n) kinds faiths places moved cnt) k)) = _)).symm
              rw [e_1] at hl
              have e_2 : (mxB (armV laws fogs arms (ix rest) stp (ix n) kinds faiths places moved cnt) k).1 = (mxB (armV laws fogs arms (ix rest) stp (ix n) kinds faiths places moved cnt) (k + 1)).1 := (congrArg Prod.fst (if_pos (show (armV laws fogs arms (ix rest) stp (ix n) kinds faiths places moved cnt) k ≤ (mxB (armV laws fogs arms (ix rest) stp (ix n) kinds faiths places moved cnt) k).2 from c_5) : (if (armV laws fogs arms (ix rest) stp (ix n) kinds faiths places moved cnt) k ≤ (mxB (armV laws fogs arms (ix rest) stp (ix n) kinds faiths places moved cnt) k).2 then mxB (armV laws fogs arms (ix rest) stp (ix n) kinds faiths places moved cnt) k else (nI k, (armV laws fogs arms (ix rest) stp (ix n) kinds faiths places moved cnt) k)) = _)).symm
              rw [e_2] at hl
              exact ih_38 (k + 1) (stE laws fogs (upd arms (ix rest) (nI k)) kinds cnt stp faiths places moved de (ix n)) (by omega) (by omega) _ _ hw _ (lv_sub hl [0, 1, 2, 4, 5, 6] rfl)
            · refine lv_iload hx hb dX11_armsFor_70 (lv_at hl 1 rfl) ?_
              refine lv_goto (tgt := 76) hx hb dX11_armsFor_72 (by decide) ?_
              refine lv_istore_n (lv' := [(3, .int (nI k)), (6, .int ((armV laws fogs arms (ix rest) stp (ix n) kinds faiths places moved cnt) k)), (5, .int (nI k)), (4, .int ((mxB (armV laws fogs arms (ix rest) stp (ix n) kinds faiths places moved cnt) k).2)), (0, .ref oh), (1, .int rest), (2, .int n)]) hx hb dX11_armsFor_76 rfl hl (by decide) rfl (fun ls hl => ?_)
              refine lv_iload hx hb dX11_armsFor_77 (lv_at hl 1 rfl) ?_
              refine lv_iload hx hb dX11_armsFor_79 (lv_at hl 3 rfl) ?_
              refine lv_icmp_le (tgt := 89) hx hb dX11_armsFor_81 (by decide) (fun q => absurd q (c_5)) (fun _ => ?_)
              refine lv_iload hx hb dX11_armsFor_84 (lv_at hl 1 rfl) ?_
              refine lv_goto (tgt := 91) hx hb dX11_armsFor_86 (by decide) ?_
              refine lv_istore (lv' := [(4, .int ((armV laws fogs arms (ix rest) stp (ix n) kinds faiths places moved cnt) k)), (3, .int (nI k)), (6, .int ((armV laws fogs arms (ix rest) stp (ix n) kinds faiths places moved cnt) k)), (5, .int (nI k)), (0, .ref oh), (1, .int rest), (2, .int n)]) hx hb dX11_armsFor_91 hl (by decide) rfl (fun ls hl => ?_)
              refine lv_iinc (v := nI (k + 1)) (lv' := [(5, .int (nI (k + 1))), (4, .int ((armV laws fogs arms (ix rest) stp (ix n) kinds faiths places moved cnt) k)), (3, .int (nI k)), (6, .int ((armV laws fogs arms (ix rest) stp (ix n) kinds faiths places moved cnt) k)), (0, .ref oh), (1, .int rest), (2, .int n)]) hx hb dX11_armsFor_93 hl (k := 3) rfl (nI_1 _) (by decide) rfl (fun ls hl => ?_)
              refine lv_goto (tgt := 38) hx hb dX11_armsFor_96 (by decide) ?_
              have e_1 : (armV laws fogs arms (ix rest) stp (ix n) kinds faiths places moved cnt) k = (mxB (armV laws fogs arms (ix rest) stp (ix n) kinds faiths places moved cnt) (k + 1)).2 := (congrArg Prod.snd (if_neg (show ¬ (armV laws fogs arms (ix rest) stp (ix n) kinds faiths places moved cnt) k ≤ (mxB (armV laws fogs arms (ix rest) stp (ix n) kinds faiths places moved cnt) k).2 from c_5) : (if (armV laws fogs arms (ix rest) stp (ix n) kinds faiths places moved cnt) k ≤ (mxB (armV laws fogs arms (ix rest) stp (ix n) kinds faiths places moved cnt) k).2 then mxB (armV laws fogs arms (ix rest) stp (ix n) kinds faiths places moved cnt) k else (nI k, (armV laws fogs arms (ix rest) stp (ix n) kinds faiths places moved cnt) k)) = _)).symm
              rw [e_1] at hl
              have e_2 : nI k = (mxB (armV laws fogs arms (ix rest) stp (ix n) kinds faiths places moved cnt) (k + 1)).1 := (congrArg Prod.fst (if_neg (show ¬ (armV laws fogs arms (ix rest) stp (ix n) kinds faiths places moved cnt) k ≤ (mxB (armV laws fogs arms (ix rest) stp (ix n) kinds faiths places moved cnt) k).2 from c_5) : (if (armV laws fogs arms (ix rest) stp (ix n) kinds faiths places moved cnt) k ≤ (mxB (armV laws fogs arms (ix rest) stp (ix n) kinds faiths places moved cnt) k).2 then mxB (armV laws fogs arms (ix rest) stp (ix n) kinds faiths places moved cnt) k else (nI k, (armV laws fogs arms (ix rest) stp (ix n) kinds faiths places moved cnt) k)) = _)).symm
              rw [e_2] at hl
              exact ih_38 (k + 1) (stE laws fogs (upd arms (ix rest) (nI k)) kinds cnt stp faiths places moved de (ix n)) (by omega) (by omega) _ _ hw _ (lv_sub hl [0, 1, 2, 4, 5, 6] rfl)
      exact lp_38_2 (10 + 1) 0 dd (by omega) (by omega) _ _ hw _ (lv_sub hl [0, 1, 2, 3, 4, 5] rfl)
    · refine lv_iconst (v := (-1)) hx hb dX11_armsFor_17 (by decide) ?_
      exact rE_i hf hr hlk hw ⟨congrArg some (by simp only [if_pos (nO_1 c_1), if_neg (nO_0 c_2)]), _, _, rfl⟩ (show ([oh, os, ol, odd] : List Nat) = [oh, os, ol, odd] from rfl) dX11_armsFor_18
theorem hdV_X11_comesWithin : yX11_comesWithin.cls = RX11 ∧ yX11_comesWithin.cls ≠ "java/lang/invoke/MethodHandle" ∧ yX11_comesWithin.cls ≠ "java/lang/invoke/VarHandle" ∧ (parseMethodDescriptor yX11_comesWithin.desc).map (fun d => d.parameters.length) = some 2 := by decide +kernel
abbrev rmX11_fogFor : Room := { frames := 8, cells := 0, slots := 0, locals := 177 }
set_option maxHeartbeats 4000000 in
set_option maxRecDepth 100000 in
theorem c_X11_fogFor (l : Launch) (g : GG) (oh : Nat) (os : Nat) (ok : Nat) (ol : Nat) (ord : Nat) (odd : Nat) (otp : Nat) (olt : Nat) (orw : Nat) (oso : Nat) (osz : Nat) (oit : Nat) (oho : Nat) (ohe : Nat) (otr : Nat) (stp : Nat) (laws : Nat → Int32) (z : Int32) (cnt : Nat) (fogs : Nat → Int32) (arms : Nat → Int32) (kinds : Nat → Int32) (faiths : Nat → Int32) (places : Nat → Int32) (moved : Nat → Int32) (isk : Int32) (tpd : Nat) (oat : Int32) (obg : Int32) (otk : Int32) (ovl : Int32) (rmn : Nat) (tcd : Nat) (own_ : Int32) (opt : Int32) (lr : Nat → Int32) (dd : Nat → Int32) (rest : Int32) (goer : Int32) (n : Int32) (hc8 : cnt ≤ 8) (hsp : stp < 2 ^ 29) (hpl : ∀ j, j < cnt → plOk (places j)) (hmo_ : ∀ j, j < cnt → moOk (moved j)) : mtR l g yX11_fogFor wsX11_fogFor rmX11_fogFor [.ref oh, .int rest, .int goer, .int n] [cob oh 11 [.ref os, .ref ok, .ref ol, .ref ord, .int isk, .ref odd, .ref otp, .int (nI tpd), .ref olt, .int oat, .int obg, .int otk, .int ovl, .ref orw, .int (nI rmn), .ref oso, .ref osz, .ref oit, .ref oho, .ref ohe, .ref otr, .int (nI tcd), .int own_, .int opt], cin g os 51 (mR stp laws z cnt fogs arms kinds faiths places moved), cin g ol 51 lr, cin g odd 8 dd] (fun rv W => rv = (some (.int (if f_X10_isOutside rest 0 5 = 0 then (if f_X8_has cnt goer = 0 then -1 else if f_X10_isOutside n 0 40 = 0 then dnR (fogQ laws fogs arms (ix rest) (kinds (ix goer)) stp (faiths (ix goer)) (places (ix goer)) (moved (ix goer)) (ix n)) 10 else -1) else -1))) ∧ ∃ (j0 : Nat → Int32) (j1 : Nat → Int32), W = [cob oh 11 [.ref os, .ref ok, .ref ol, .ref ord, .int isk, .ref odd, .ref otp, .int (nI tpd), .ref olt, .int oat, .int obg, .int otk, .int ovl, .ref orw, .int (nI rmn), .ref oso, .ref osz, .ref oit, .ref oho, .ref ohe, .ref otr, .int (nI tcd), .int own_, .int opt], cin g os 51 (mR stp laws z cnt fogs arms kinds faiths places moved), cin g ol 51 j0, cin g odd 8 j1]) := by
  refine mtR.of (cc := cX11_fogFor) (nL := 5) (ret := (some .int)) (own := RX11) (by decide +kernel) rfl rfl (Nat.le_of_ble_eq_true rfl) (fun p e s m below meth c hf hr hlk _ hk hst hw ls hl => ?_)
  have hx := hf.1
  have hb := hf.2.1
  have hts := hf.2.2.2.2
  have hl : lv_has ls 5 [(0, .ref oh), (1, .int rest), (2, .int goer), (3, .int n)] := hl
  have hinX11 : ∀ w ∈ u_ws RX11 TX11 24, w ∈ wsX11_fogFor := fun w h => List.mem_cons_of_mem _ (List.mem_append_right _ h)
  have w_0 : Cond.fieldLink RX11 9 "LightManModel" "s" "[I" ∈ wsX11_fogFor := List.mem_of_getElem? (i := 1) rfl
  have w_1 : Cond.fieldLink RX11 16 "LightManModel" "laid" "[I" ∈ wsX11_fogFor := List.mem_of_getElem? (i := 2) rfl
  refine lv_iload_n hx hb dX11_fogFor_0 rfl (lv_at hl 1 rfl) ?_
  refine mcS hf hk hst hw (c_X11_isRest l g rest) (va_cwS 1 hts gX11_fogFor_X11_isRest rfl rfl rfl hdS_X11_isRest ⟨Nat.le_of_ble_eq_true rfl, Nat.le_of_ble_eq_true rfl⟩) [] rfl rfl rfl hl.1 rfl (Nat.le_of_ble_eq_true rfl) dX11_fogFor_1 ⟨Nat.zero_le _, Nat.zero_le _⟩ (W' := [cob oh 11 [.ref os, .ref ok, .ref ol, .ref ord, .int isk, .ref odd, .ref otp, .int (nI tpd), .ref olt, .int oat, .int obg, .int otk, .int ovl, .ref orw, .int (nI rmn), .ref oso, .ref osz, .ref oit, .ref oho, .ref ohe, .ref otr, .int (nI tcd), .int own_, .int opt], cin g os 51 (mR stp laws z cnt fogs arms kinds faiths places moved), cin g ol 51 lr, cin g odd 8 dd]) rfl (fun H locs hw => ?_)
  refine lv_if_eq (tgt := 25) hx hb dX11_fogFor_4 (by decide) (fun c_1 => ?_) (fun c_1 => ?_)
  · refine lv_iconst (v := (-1)) hx hb dX11_fogFor_25 (by decide) ?_
    exact rE_i hf hr hlk hw ⟨congrArg some (by simp only [if_neg (nO_0 c_1)]), _, _, rfl⟩ (show ([oh, os, ol, odd] : List Nat) = [oh, os, ol, odd] from rfl) dX11_fogFor_26
  · have hr_ := out_n (N := 5) (by decide) (nO_1 c_1)
    have hr_2 := hr_.2
    refine lv_aload_n hx hb dX11_fogFor_7 rfl (lv_at hl 0 rfl) ?_
    refine lv_iload_n hx hb dX11_fogFor_8 rfl (lv_at hl 2 rfl) ?_
    refine mcV hf hk hst hw (c_X11_isGoer l g oh os ok ol ord odd otp olt orw oso osz oit oho ohe otr stp laws z cnt fogs arms kinds faiths places moved isk tpd oat obg otk ovl rmn tcd own_ opt goer (by omega)) (cwV 1 hts gX11_fogFor_X11_isGoer rfl rfl rfl hdV_X11_isGoer ⟨Nat.le_of_ble_eq_true rfl, Nat.le_of_ble_eq_true rfl⟩) [0, 1] rfl rfl 0 rfl rfl rfl hl.1 rfl (Nat.le_of_ble_eq_true rfl) dX11_fogFor_9 ⟨Nat.zero_le _, Nat.zero_le _⟩ (W' := [cob oh 11 [.ref os, .ref ok, .ref ol, .ref ord, .int isk, .ref odd, .ref otp, .int (nI tpd), .ref olt, .int oat, .int obg, .int otk, .int ovl, .ref orw, .int (nI rmn), .ref oso, .ref osz, .ref oit, .ref oho, .ref ohe, .ref otr, .int (nI tcd), .int own_, .int opt], cin g os 51 (mR stp laws z cnt fogs arms kinds faiths places moved), cin g ol 51 lr, cin g odd 8 dd]) rfl (fun H locs hw => ?_)
    refine lv_if_eq (tgt := 25) hx hb dX11_fogFor_12 (by decide) (fun c_2 => ?_) (fun c_2 => ?_)
    · refine lv_iconst (v := (-1)) hx hb dX11_fogFor_25 (by decide) ?_
      exact rE_i hf hr hlk hw ⟨congrArg some (by simp only [if_pos (nO_1 c_1), if_pos c_2]), _, _, rfl⟩ (show ([oh, os, ol, odd] : List Nat) = [oh, os, ol, odd] from rfl) dX11_fogFor_26
    · have hg := has_n hc8 c_2
      have hg2 := hg.2
      refine lv_iload_n hx hb dX11_fogFor_15 rfl (lv_at hl 3 rfl) ?_
      refine lv_iconst (v := 0) hx hb dX11_fogFor_16 (by decide) ?_
      refine lv_bipush (v := 40) hx hb dX11_fogFor_17 (by decide) ?_
      refine mcS hf hk hst hw (c_X11_in1 l g n 0 40) (va_cwS 3 hts gX11_fogFor_X11_in1 rfl rfl rfl hdS_X11_in1 ⟨Nat.le_of_ble_eq_true rfl, Nat.le_of_ble_eq_true rfl⟩) [] rfl rfl rfl hl.1 rfl (Nat.le_of_ble_eq_true rfl) dX11_fogFor_19 ⟨Nat.zero_le _, Nat.zero_le _⟩ (W' := [cob oh 11 [.ref os, .ref ok, .ref ol, .ref ord, .int isk, .ref odd, .ref otp, .int (nI tpd), .ref olt, .int oat, .int obg, .int otk, .int ovl, .ref orw, .int (nI rmn), .ref oso, .ref osz, .ref oit, .ref oho, .ref ohe, .ref otr, .int (nI tcd), .int own_, .int opt], cin g os 51 (mR stp laws z cnt fogs arms kinds faiths places moved), cin g ol 51 lr, cin g odd 8 dd]) rfl (fun H locs hw => ?_)
      refine lv_if_ne (tgt := 27) hx hb dX11_fogFor_22 (by decide) (fun c_3 => ?_) (fun c_3 => ?_)
      · have hn := out_n (N := 40) (by decide) (nO_1 c_3)
        have hn2 := hn.2
        refine lv_aload_n hx hb dX11_fogFor_27 rfl (lv_at hl 0 rfl) ?_
        refine rg hf hk hw hinX11 0 rfl rfl 0 (by decide) w_0 rfl dX11_fogFor_28 ?_
        refine lv_aload_n hx hb dX11_fogFor_31 rfl (lv_at hl 0 rfl) ?_
        refine rg hf hk hw hinX11 0 rfl rfl 2 (by decide) w_1 rfl dX11_fogFor_32 ?_
        refine mcS hf hk hst hw (c_X11_copies l g os ol (mR stp laws z cnt fogs arms kinds faiths places moved) lr) (va_cwS 2 hts gX11_fogFor_X11_copies rfl rfl rfl hdS_X11_copies ⟨Nat.le_of_ble_eq_true rfl, Nat.le_of_ble_eq_true rfl⟩) [1, 2] rfl rfl rfl hl.1 rfl (Nat.le_of_ble_eq_true rfl) dX11_fogFor_35 ⟨Nat.zero_le _, Nat.zero_le _⟩ (W' := [cob oh 11 [.ref os, .ref ok, .ref ol, .ref ord, .int isk, .ref odd, .ref otp, .int (nI tpd), .ref olt, .int oat, .int obg, .int otk, .int ovl, .ref orw, .int (nI rmn), .ref oso, .ref osz, .ref oit, .ref oho, .ref ohe, .ref otr, .int (nI tcd), .int own_, .int opt], cin g os 51 (mR stp laws z cnt fogs arms kinds faiths places moved), cin g ol 51 (mR stp laws z cnt fogs arms kinds faiths places moved), cin g odd 8 dd]) rfl (fun H locs hw => ?_)
        refine lv_bipush (v := 9) hx hb dX11_fogFor_38 (by decide) ?_
        refine lv_istore (lv' := [(4, .int 9), (0, .ref oh), (1, .int rest), (2, .int goer), (3, .int n)]) hx hb dX11_fogFor_40 hl (by decide) rfl (fun ls hl => ?_)
        have lp_42_3 : ∀ (fu k : Nat) (de : Nat → Int32), k ≤ 10 → 10 + 1 ≤ k + fu → (dnR (fogQ laws fogs arms (ix rest) (kinds (ix goer)) stp (faiths (ix goer)) (places (ix goer)) (moved (ix goer)) (ix n)) 10 = dnR (fogQ laws fogs arms (ix rest) (kinds (ix goer)) stp (faiths (ix goer)) (places (ix goer)) (moved (ix goer)) (ix n)) (10 - k)) → ∀ (H : Heap) (locs : List Loc), hv g (va_I [cob oh 11 [.ref os, .ref ok, .ref ol, .ref ord, .int isk, .ref odd, .ref otp, .int (nI tpd), .ref olt, .int oat, .int obg, .int otk, .int ovl, .ref orw, .int (nI rmn), .ref oso, .ref osz, .ref oit, .ref oho, .ref ohe, .ref otr, .int (nI tcd), .int own_, .int opt], cin g os 51 (mR stp laws z cnt fogs arms kinds faiths places moved), cin g ol 51 lr, cin g odd 8 dd]) s H locs [cob oh 11 [.ref os, .ref ok, .ref ol, .ref ord, .int isk, .ref odd, .ref otp, .int (nI tpd), .ref olt, .int oat, .int obg, .int otk, .int ovl, .ref orw, .int (nI rmn), .ref oso, .ref osz, .ref oit, .ref oho, .ref ohe, .ref otr, .int (nI tcd), .int own_, .int opt], cin g os 51 (mR stp laws z cnt fogs arms kinds faiths places moved), cin g ol 51 (mR stp laws z cnt fogs arms kinds faiths places moved), cin g odd 8 de] → ∀ ls : Array Slot, lv_has ls 5 [(4, .int (nI (10 - k) - 1)), (0, .ref oh), (1, .int rest), (2, .int goer), (3, .int n)] → W p l e rmX11_fogFor s m ([.ref oh, .int rest, .int goer, .int n] : List Value).toArray below meth c H locs 0 0 (MQ below (mtS g [cob oh 11 [.ref os, .ref ok, .ref ol, .ref ord, .int isk, .ref odd, .ref otp, .int (nI tpd), .ref olt, .int oat, .int obg, .int otk, .int ovl, .ref orw, .int (nI rmn), .ref oso, .ref osz, .ref oit, .ref oho, .ref ohe, .ref otr, .int (nI tcd), .int own_, .int opt], cin g os 51 (mR stp laws z cnt fogs arms kinds faiths places moved), cin g ol 51 lr, cin g odd 8 dd] (fun rv W => rv = (some (.int (if f_X10_isOutside rest 0 5 = 0 then (if f_X8_has cnt goer = 0 then -1 else if f_X10_isOutside n 0 40 = 0 then dnR (fogQ laws fogs arms (ix rest) (kinds (ix goer)) stp (faiths (ix goer)) (places (ix goer)) (moved (ix goer)) (ix n)) 10 else -1) else -1))) ∧ ∃ (j0 : Nat → Int32) (j1 : Nat → Int32), W = [cob oh 11 [.ref os, .ref ok, .ref ol, .ref ord, .int isk, .ref odd, .ref otp, .int (nI tpd), .ref olt, .int oat, .int obg, .int otk, .int ovl, .ref orw, .int (nI rmn), .ref oso, .ref osz, .ref oit, .ref oho, .ref ohe, .ref otr, .int (nI tcd), .int own_, .int opt], cin g os 51 (mR stp laws z cnt fogs arms kinds faiths places moved), cin g ol 51 j0, cin g odd 8 j1])) ([.ref oh, .int rest, .int goer, .int n] : List Value).toArray s 0 0 (va_I [cob oh 11 [.ref os, .ref ok, .ref ol, .ref ord, .int isk, .ref odd, .ref otp, .int (nI tpd), .ref olt, .int oat, .int obg, .int otk, .int ovl, .ref orw, .int (nI rmn), .ref oso, .ref osz, .ref oit, .ref oho, .ref ohe, .ref otr, .int (nI tcd), .int own_, .int opt], cin g os 51 (mR stp laws z cnt fogs arms kinds faiths places moved), cin g ol 51 lr, cin g odd 8 dd])) (F0 m 42 ls []) := by
          intro fu
          induction fu with
          | zero =>
            intro k de h1 h2
            exact absurd h2 (by omega)
          | succ fu ih_42 =>
            intro k de hk1_42 hk2_42 eR H locs hw ls hl
            refine lv_iload hx hb dX11_fogFor_42 (lv_at hl 0 rfl) ?_
            refine lv_if_lt (tgt := 76) hx hb dX11_fogFor_44 (by decide) (fun c_5 => ?_) (fun c_5 => ?_)
            · have hkE : k = 10 := fg_end hk1_42 c_5
              refine lv_bipush (v := (-3)) hx hb dX11_fogFor_76 (by decide) ?_
              exact rE_i hf hr hlk hw ⟨congrArg some (by simp only [if_pos (nO_1 c_1), if_neg c_2, if_pos (nO_1 c_3)]; rw [eR, hkE]; rfl), _, _, rfl⟩ (show ([oh, os, ol, odd] : List Nat) = [oh, os, ol, odd] from rfl) dX11_fogFor_78
            · have hkE : k < 10 := fg_go c_5
              refine lv_aload_n hx hb dX11_fogFor_47 rfl (lv_at hl 1 rfl) ?_
              refine rg hf hk hw hinX11 0 rfl rfl 0 (by decide) w_0 rfl dX11_fogFor_48 ?_
              refine lv_bipush (v := 7) hx hb dX11_fogFor_51 (by decide) ?_
              refine lv_iload_n hx hb dX11_fogFor_53 rfl (lv_at hl 2 rfl) ?_
              refine lv_tope (y := nI (ix rest)) hr_.1 ?_
              refine lv_iadd hx hb dX11_fogFor_54 ?_
              refine lv_tope (y := nI (7 + (ix rest))) (nI_add 7 _) ?_
              refine lv_iload hx hb dX11_fogFor_55 (lv_at hl 0 rfl) ?_
              refine lv_tope (y := nI (9 - k)) (nI_p1 hkE) ?_
              refine rse hf hk hw 1 rfl (j := 7 + (ix rest)) (vp_in_nI (by omega) (by omega)) (nI_clamp (by omega)) (mU_fog (r := ix rest) (by omega)) dX11_fogFor_57 (W' := [cob oh 11 [.ref os, .ref ok, .ref ol, .ref ord, .int isk, .ref odd, .ref otp, .int (nI tpd), .ref olt, .int oat, .int obg, .int otk, .int ovl, .ref orw, .int (nI rmn), .ref oso, .ref osz, .ref oit, .ref oho, .ref ohe, .ref otr, .int (nI tcd), .int own_, .int opt], cin g os 51 (mR stp laws z cnt (upd fogs (ix rest) (nI (9 - k))) arms kinds faiths places moved), cin g ol 51 (mR stp laws z cnt fogs arms kinds faiths places moved), cin g odd 8 de]) rfl (fun H locs hw => ?_)
              refine lv_aload_n hx hb dX11_fogFor_58 rfl (lv_at hl 1 rfl) ?_
              refine lv_iload_n hx hb dX11_fogFor_59 rfl (lv_at hl 3 rfl) ?_
              refine lv_tope (y := nI (ix goer)) hg.1 ?_
              refine lv_iload_n hx hb dX11_fogFor_60 rfl (lv_at hl 4 rfl) ?_
              refine lv_tope (y := nI (ix n)) hn.1 ?_
              refine mcV hf hk hst hw (c_X11_comesWithin l g oh os ok ol ord odd otp olt orw oso osz oit oho ohe otr stp laws z cnt (upd fogs (ix rest) (nI (9 - k))) arms kinds faiths places moved isk tpd oat obg otk ovl rmn tcd own_ opt (mR stp laws z cnt fogs arms kinds faiths places moved) de (ix goer) (ix n) (by omega) (by omega) (by assumption) (by assumption) (by omega) (hg2)) (cwV 2 hts gX11_fogFor_X11_comesWithin rfl rfl rfl hdV_X11_comesWithin ⟨Nat.le_of_ble_eq_true rfl, Nat.le_of_ble_eq_true rfl⟩) [0, 1, 2, 3] rfl rfl 0 rfl rfl rfl hl.1 rfl (Nat.le_of_ble_eq_true rfl) dX11_fogFor_61 ⟨Nat.zero_le _, Nat.zero_le _⟩ (W' := [cob oh 11 [.ref os, .ref ok, .ref ol, .ref ord, .int isk, .ref odd, .ref otp, .int (nI tpd), .ref olt, .int oat, .int obg, .int otk, .int ovl, .ref orw, .int (nI rmn), .ref oso, .ref osz, .ref oit, .ref oho, .ref ohe, .ref otr, .int (nI tcd), .int own_, .int opt], cin g os 51 (mR stp laws z cnt fogs arms kinds faiths places moved), cin g ol 51 (mR stp laws z cnt fogs arms kinds faiths places moved), cin g odd 8 (stE laws (upd fogs (ix rest) (nI (9 - k))) arms kinds cnt stp faiths places moved de (ix n))]) rfl (fun H locs hw => ?_)
              refine lv_tope (y := (fogQ laws fogs arms (ix rest) (kinds (ix goer)) stp (faiths (ix goer)) (places (ix goer)) (moved (ix goer)) (ix n)) (9 - k)) (rfl) ?_
              refine lv_if_eq (tgt := 70) hx hb dX11_fogFor_64 (by decide) (fun c_6 => ?_) (fun c_6 => ?_)
              · have hc0 := c_6
                refine lv_iinc (v := nI (10 - (k + 1)) - 1) (lv' := [(4, .int (nI (10 - (k + 1)) - 1)), (0, .ref oh), (1, .int rest), (2, .int goer), (3, .int n)]) hx hb dX11_fogFor_70 hl (k := 0) rfl (by rw [ad1, nI_p1 hkE, show 10 - (k + 1) = 9 - k by omega]) (by decide) rfl (fun ls hl => ?_)
                refine lv_goto (tgt := 42) hx hb dX11_fogFor_73 (by decide) ?_
                exact ih_42 (k + 1) (stE laws (upd fogs (ix rest) (nI (9 - k))) arms kinds cnt stp faiths places moved de (ix n)) (by omega) (by omega) (by rw [eR, show 10 - k = (9 - k) + 1 by omega, show 10 - (k + 1) = 9 - k by omega]; exact if_pos hc0) _ _ hw _ (lv_sub hl [0, 1, 2, 3, 4] rfl)
              · refine lv_iload hx hb dX11_fogFor_67 (lv_at hl 0 rfl) ?_
                refine lv_tope (y := nI (9 - k)) (nI_p1 hkE) ?_
                exact rE_i hf hr hlk hw ⟨congrArg some (by simp only [if_pos (nO_1 c_1), if_neg c_2, if_pos (nO_1 c_3)]; rw [eR, show 10 - k = (9 - k) + 1 by omega]; exact congrArg Value.int (if_neg c_6).symm), _, _, rfl⟩ (show ([oh, os, ol, odd] : List Nat) = [oh, os, ol, odd] from rfl) dX11_fogFor_69
        exact lp_42_3 (10 + 1) 0 dd (by omega) (by omega) (rfl) _ _ hw _ (lv_sub hl [0, 1, 2, 3, 4] rfl)
      · refine lv_iconst (v := (-1)) hx hb dX11_fogFor_25 (by decide) ?_
        exact rE_i hf hr hlk hw ⟨congrArg some (by simp only [if_pos (nO_1 c_1), if_neg c_2, if_neg (nO_0 c_3)]), _, _, rfl⟩ (show ([oh, os, ol, odd] : List Nat) = [oh, os, ol, odd] from rfl) dX11_fogFor_26
abbrev rmX11_faithFor : Room := { frames := 8, cells := 0, slots := 0, locals := 177 }
set_option maxHeartbeats 4000000 in
set_option maxRecDepth 100000 in
theorem c_X11_faithFor (l : Launch) (g : GG) (oh : Nat) (os : Nat) (ok : Nat) (ol : Nat) (ord : Nat) (odd : Nat) (otp : Nat) (olt : Nat) (orw : Nat) (oso : Nat) (osz : Nat) (oit : Nat) (oho : Nat) (ohe : Nat) (otr : Nat) (stp : Nat) (laws : Nat → Int32) (z : Int32) (cnt : Nat) (fogs : Nat → Int32) (arms : Nat → Int32) (kinds : Nat → Int32) (faiths : Nat → Int32) (places : Nat → Int32) (moved : Nat → Int32) (isk : Int32) (tpd : Nat) (oat : Int32) (obg : Int32) (otk : Int32) (ovl : Int32) (rmn : Nat) (tcd : Nat) (own_ : Int32) (opt : Int32) (lr : Nat → Int32) (dd : Nat → Int32) (goer : Int32) (n : Int32) (hc8 : cnt ≤ 8) (hsp : stp < 2 ^ 29) (hpl : ∀ j, j < cnt → plOk (places j)) (hmo_ : ∀ j, j < cnt → moOk (moved j)) : mtR l g yX11_faithFor wsX11_faithFor rmX11_faithFor [.ref oh, .int goer, .int n] [cob oh 11 [.ref os, .ref ok, .ref ol, .ref ord, .int isk, .ref odd, .ref otp, .int (nI tpd), .ref olt, .int oat, .int obg, .int otk, .int ovl, .ref orw, .int (nI rmn), .ref oso, .ref osz, .ref oit, .ref oho, .ref ohe, .ref otr, .int (nI tcd), .int own_, .int opt], cin g os 51 (mR stp laws z cnt fogs arms kinds faiths places moved), cin g ol 51 lr, cin g odd 8 dd] (fun rv W => rv = (some (.int (if f_X8_has cnt goer = 0 then -1 else if f_X10_isOutside n 0 40 = 0 then upR (faiQ laws fogs arms (kinds (ix goer)) stp (places (ix goer)) (moved (ix goer)) (ix n)) 100 0 else -1))) ∧ ∃ (j0 : Nat → Int32) (j1 : Nat → Int32), W = [cob oh 11 [.ref os, .ref ok, .ref ol, .ref ord, .int isk, .ref odd, .ref otp, .int (nI tpd), .ref olt, .int oat, .int obg, .int otk, .int ovl, .ref orw, .int (nI rmn), .ref oso, .ref osz, .ref oit, .ref oho, .ref ohe, .ref otr, .int (nI tcd), .int own_, .int opt], cin g os 51 (mR stp laws z cnt fogs arms kinds faiths places moved), cin g ol 51 j0, cin g odd 8 j1]) := by
  refine mtR.of (cc := cX11_faithFor) (nL := 4) (ret := (some .int)) (own := RX11) (by decide +kernel) rfl rfl (Nat.le_of_ble_eq_true rfl) (fun p e s m below meth c hf hr hlk _ hk hst hw ls hl => ?_)
  have hx := hf.1
  have hb := hf.2.1
  have hts := hf.2.2.2.2
  have hl : lv_has ls 4 [(0, .ref oh), (1, .int goer), (2, .int n)] := hl
  have hinX11 : ∀ w ∈ u_ws RX11 TX11 24, w ∈ wsX11_faithFor := fun w h => List.mem_cons_of_mem _ (List.mem_append_right _ h)
  have w_0 : Cond.fieldLink RX11 9 "LightManModel" "s" "[I" ∈ wsX11_faithFor := List.mem_of_getElem? (i := 1) rfl
  have w_1 : Cond.fieldLink RX11 16 "LightManModel" "laid" "[I" ∈ wsX11_faithFor := List.mem_of_getElem? (i := 2) rfl
  refine lv_aload_n hx hb dX11_faithFor_0 rfl (lv_at hl 0 rfl) ?_
  refine lv_iload_n hx hb dX11_faithFor_1 rfl (lv_at hl 1 rfl) ?_
  refine mcV hf hk hst hw (c_X11_isGoer l g oh os ok ol ord odd otp olt orw oso osz oit oho ohe otr stp laws z cnt fogs arms kinds faiths places moved isk tpd oat obg otk ovl rmn tcd own_ opt goer (by omega)) (cwV 1 hts gX11_faithFor_X11_isGoer rfl rfl rfl hdV_X11_isGoer ⟨Nat.le_of_ble_eq_true rfl, Nat.le_of_ble_eq_true rfl⟩) [0, 1] rfl rfl 0 rfl rfl rfl hl.1 rfl (Nat.le_of_ble_eq_true rfl) dX11_faithFor_2 ⟨Nat.zero_le _, Nat.zero_le _⟩ (W' := [cob oh 11 [.ref os, .ref ok, .ref ol, .ref ord, .int isk, .ref odd, .ref otp, .int (nI tpd), .ref olt, .int oat, .int obg, .int otk, .int ovl, .ref orw, .int (nI rmn), .ref oso, .ref osz, .ref oit, .ref oho, .ref ohe, .ref otr, .int (nI tcd), .int own_, .int opt], cin g os 51 (mR stp laws z cnt fogs arms kinds faiths places moved), cin g ol 51 lr, cin g odd 8 dd]) rfl (fun H locs hw => ?_)
  refine lv_if_eq (tgt := 18) hx hb dX11_faithFor_5 (by decide) (fun c_1 => ?_) (fun c_1 => ?_)
  · refine lv_iconst (v := (-1)) hx hb dX11_faithFor_18 (by decide) ?_
    exact rE_i hf hr hlk hw ⟨congrArg some (by simp only [if_pos c_1]), _, _, rfl⟩ (show ([oh, os, ol, odd] : List Nat) = [oh, os, ol, odd] from rfl) dX11_faithFor_19
  · have hg := has_n hc8 c_1
    have hg2 := hg.2
    refine lv_iload_n hx hb dX11_faithFor_8 rfl (lv_at hl 2 rfl) ?_
    refine lv_iconst (v := 0) hx hb dX11_faithFor_9 (by decide) ?_
    refine lv_bipush (v := 40) hx hb dX11_faithFor_10 (by decide) ?_
    refine mcS hf hk hst hw (c_X11_in1 l g n 0 40) (va_cwS 3 hts gX11_faithFor_X11_in1 rfl rfl rfl hdS_X11_in1 ⟨Nat.le_of_ble_eq_true rfl, Nat.le_of_ble_eq_true rfl⟩) [] rfl rfl rfl hl.1 rfl (Nat.le_of_ble_eq_true rfl) dX11_faithFor_12 ⟨Nat.zero_le _, Nat.zero_le _⟩ (W' := [cob oh 11 [.ref os, .ref ok, .ref ol, .ref ord, .int isk, .ref odd, .ref otp, .int (nI tpd), .ref olt, .int oat, .int obg, .int otk, .int ovl, .ref orw, .int (nI rmn), .ref oso, .ref osz, .ref oit, .ref oho, .ref ohe, .ref otr, .int (nI tcd), .int own_, .int opt], cin g os 51 (mR stp laws z cnt fogs arms kinds faiths places moved), cin g ol 51 lr, cin g odd 8 dd]) rfl (fun H locs hw => ?_)
    refine lv_if_ne (tgt := 20) hx hb dX11_faithFor_15 (by decide) (fun c_2 => ?_) (fun c_2 => ?_)
    · have hn := out_n (N := 40) (by decide) (nO_1 c_2)
      have hn2 := hn.2
      refine lv_aload_n hx hb dX11_faithFor_20 rfl (lv_at hl 0 rfl) ?_
      refine rg hf hk hw hinX11 0 rfl rfl 0 (by decide) w_0 rfl dX11_faithFor_21 ?_
      refine lv_aload_n hx hb dX11_faithFor_24 rfl (lv_at hl 0 rfl) ?_
      refine rg hf hk hw hinX11 0 rfl rfl 2 (by decide) w_1 rfl dX11_faithFor_25 ?_
      refine mcS hf hk hst hw (c_X11_copies l g os ol (mR stp laws z cnt fogs arms kinds faiths places moved) lr) (va_cwS 2 hts gX11_faithFor_X11_copies rfl rfl rfl hdS_X11_copies ⟨Nat.le_of_ble_eq_true rfl, Nat.le_of_ble_eq_true rfl⟩) [1, 2] rfl rfl rfl hl.1 rfl (Nat.le_of_ble_eq_true rfl) dX11_faithFor_28 ⟨Nat.zero_le _, Nat.zero_le _⟩ (W' := [cob oh 11 [.ref os, .ref ok, .ref ol, .ref ord, .int isk, .ref odd, .ref otp, .int (nI tpd), .ref olt, .int oat, .int obg, .int otk, .int ovl, .ref orw, .int (nI rmn), .ref oso, .ref osz, .ref oit, .ref oho, .ref ohe, .ref otr, .int (nI tcd), .int own_, .int opt], cin g os 51 (mR stp laws z cnt fogs arms kinds faiths places moved), cin g ol 51 (mR stp laws z cnt fogs arms kinds faiths places moved), cin g odd 8 dd]) rfl (fun H locs hw => ?_)
      refine lv_iconst (v := 0) hx hb dX11_faithFor_31 (by decide) ?_
      refine lv_istore_n (lv' := [(3, .int 0), (0, .ref oh), (1, .int goer), (2, .int n)]) hx hb dX11_faithFor_32 rfl hl (by decide) rfl (fun ls hl => ?_)
      have lp_33_2 : ∀ (fu k : Nat) (de : Nat → Int32), k ≤ 100 → 100 + 1 ≤ k + fu → (upR (faiQ laws fogs arms (kinds (ix goer)) stp (places (ix goer)) (moved (ix goer)) (ix n)) 100 0 = upR (faiQ laws fogs arms (kinds (ix goer)) stp (places (ix goer)) (moved (ix goer)) (ix n)) (100 - k) k) → ∀ (H : Heap) (locs : List Loc), hv g (va_I [cob oh 11 [.ref os, .ref ok, .ref ol, .ref ord, .int isk, .ref odd, .ref otp, .int (nI tpd), .ref olt, .int oat, .int obg, .int otk, .int ovl, .ref orw, .int (nI rmn), .ref oso, .ref osz, .ref oit, .ref oho, .ref ohe, .ref otr, .int (nI tcd), .int own_, .int opt], cin g os 51 (mR stp laws z cnt fogs arms kinds faiths places moved), cin g ol 51 lr, cin g odd 8 dd]) s H locs [cob oh 11 [.ref os, .ref ok, .ref ol, .ref ord, .int isk, .ref odd, .ref otp, .int (nI tpd), .ref olt, .int oat, .int obg, .int otk, .int ovl, .ref orw, .int (nI rmn), .ref oso, .ref osz, .ref oit, .ref oho, .ref ohe, .ref otr, .int (nI tcd), .int own_, .int opt], cin g os 51 (mR stp laws z cnt fogs arms kinds faiths places moved), cin g ol 51 (mR stp laws z cnt fogs arms kinds faiths places moved), cin g odd 8 de] → ∀ ls : Array Slot, lv_has ls 4 [(3, .int (nI k)), (0, .ref oh), (1, .int goer), (2, .int n)] → W p l e rmX11_faithFor s m ([.ref oh, .int goer, .int n] : List Value).toArray below meth c H locs 0 0 (MQ below (mtS g [cob oh 11 [.ref os, .ref ok, .ref ol, .ref ord, .int isk, .ref odd, .ref otp, .int (nI tpd), .ref olt, .int oat, .int obg, .int otk, .int ovl, .ref orw, .int (nI rmn), .ref oso, .ref osz, .ref oit, .ref oho, .ref ohe, .ref otr, .int (nI tcd), .int own_, .int opt], cin g os 51 (mR stp laws z cnt fogs arms kinds faiths places moved), cin g ol 51 lr, cin g odd 8 dd] (fun rv W => rv = (some (.int (if f_X8_has cnt goer = 0 then -1 else if f_X10_isOutside n 0 40 = 0 then upR (faiQ laws fogs arms (kinds (ix goer)) stp (places (ix goer)) (moved (ix goer)) (ix n)) 100 0 else -1))) ∧ ∃ (j0 : Nat → Int32) (j1 : Nat → Int32), W = [cob oh 11 [.ref os, .ref ok, .ref ol, .ref ord, .int isk, .ref odd, .ref otp, .int (nI tpd), .ref olt, .int oat, .int obg, .int otk, .int ovl, .ref orw, .int (nI rmn), .ref oso, .ref osz, .ref oit, .ref oho, .ref ohe, .ref otr, .int (nI tcd), .int own_, .int opt], cin g os 51 (mR stp laws z cnt fogs arms kinds faiths places moved), cin g ol 51 j0, cin g odd 8 j1])) ([.ref oh, .int goer, .int n] : List Value).toArray s 0 0 (va_I [cob oh 11 [.ref os, .ref ok, .ref ol, .ref ord, .int isk, .ref odd, .ref otp, .int (nI tpd), .ref olt, .int oat, .int obg, .int otk, .int ovl, .ref orw, .int (nI rmn), .ref oso, .ref osz, .ref oit, .ref oho, .ref ohe, .ref otr, .int (nI tcd), .int own_, .int opt], cin g os 51 (mR stp laws z cnt fogs arms kinds faiths places moved), cin g ol 51 lr, cin g odd 8 dd])) (F0 m 33 ls []) := by
        intro fu
        induction fu with
        | zero =>
          intro k de h1 h2
          exact absurd h2 (by omega)
        | succ fu ih_33 =>
          intro k de hk1_33 hk2_33 eR H locs hw ls hl
          refine lv_iload_n hx hb dX11_faithFor_33 rfl (lv_at hl 0 rfl) ?_
          refine lv_bipush (v := 99) hx hb dX11_faithFor_34 (by decide) ?_
          refine lv_icmp_gt (tgt := 63) hx hb dX11_faithFor_36 (by decide) (fun c_4 => ?_) (fun c_4 => ?_)
          · have hkE : k = 100 := by have := (nI_ltI (a := 99) (by omega) (by omega)).mp c_4; omega
            refine lv_bipush (v := (-3)) hx hb dX11_faithFor_63 (by decide) ?_
            exact rE_i hf hr hlk hw ⟨congrArg some (by simp only [if_neg c_1, if_pos (nO_1 c_2)]; rw [eR, hkE]; rfl), _, _, rfl⟩ (show ([oh, os, ol, odd] : List Nat) = [oh, os, ol, odd] from rfl) dX11_faithFor_65
          · have hkE : k < 100 := by have := Nat.not_lt.mp (fun h => c_4 ((nI_ltI (a := 99) (by omega) (by omega)).mpr h)); omega
            refine lv_aload_n hx hb dX11_faithFor_39 rfl (lv_at hl 1 rfl) ?_
            refine lv_iload_n hx hb dX11_faithFor_40 rfl (lv_at hl 2 rfl) ?_
            refine lv_tope (y := nI (ix goer)) hg.1 ?_
            refine lv_iconst (v := 1) hx hb dX11_faithFor_41 (by decide) ?_
            refine lv_iload_n hx hb dX11_faithFor_42 rfl (lv_at hl 0 rfl) ?_
            refine mcV hf hk hst hw (c_X11_puts1 l g oh os ok ol ord odd otp olt orw oso osz oit oho ohe otr stp laws z cnt fogs arms kinds faiths places moved isk tpd oat obg otk ovl rmn tcd own_ opt (ix goer) (nI k) (by omega)) (cwV 3 hts gX11_faithFor_X11_puts rfl rfl rfl hdV_X11_puts ⟨Nat.le_of_ble_eq_true rfl, Nat.le_of_ble_eq_true rfl⟩) [0, 1] rfl rfl 0 rfl rfl rfl hl.1 rfl (Nat.le_of_ble_eq_true rfl) dX11_faithFor_43 ⟨Nat.zero_le _, Nat.zero_le _⟩ (W' := [cob oh 11 [.ref os, .ref ok, .ref ol, .ref ord, .int isk, .ref odd, .ref otp, .int (nI tpd), .ref olt, .int oat, .int obg, .int otk, .int ovl, .ref orw, .int (nI rmn), .ref oso, .ref osz, .ref oit, .ref oho, .ref ohe, .ref otr, .int (nI tcd), .int own_, .int opt], cin g os 51 (mR stp laws z cnt fogs arms kinds (upd faiths (ix goer) (nI k)) places moved), cin g ol 51 (mR stp laws z cnt fogs arms kinds faiths places moved), cin g odd 8 de]) rfl (fun H locs hw => ?_)
            refine lv_aload_n hx hb dX11_faithFor_46 rfl (lv_at hl 1 rfl) ?_
            refine lv_iload_n hx hb dX11_faithFor_47 rfl (lv_at hl 2 rfl) ?_
            refine lv_tope (y := nI (ix goer)) hg.1 ?_
            refine lv_iload_n hx hb dX11_faithFor_48 rfl (lv_at hl 3 rfl) ?_
            refine lv_tope (y := nI (ix n)) hn.1 ?_
            refine mcV hf hk hst hw (c_X11_comesWithin l g oh os ok ol ord odd otp olt orw oso osz oit oho ohe otr stp laws z cnt fogs arms kinds (upd faiths (ix goer) (nI k)) places moved isk tpd oat obg otk ovl rmn tcd own_ opt (mR stp laws z cnt fogs arms kinds faiths places moved) de (ix goer) (ix n) (by omega) (by omega) (by assumption) (by assumption) (by omega) (hg2)) (cwV 2 hts gX11_faithFor_X11_comesWithin rfl rfl rfl hdV_X11_comesWithin ⟨Nat.le_of_ble_eq_true rfl, Nat.le_of_ble_eq_true rfl⟩) [0, 1, 2, 3] rfl rfl 0 rfl rfl rfl hl.1 rfl (Nat.le_of_ble_eq_true rfl) dX11_faithFor_49 ⟨Nat.zero_le _, Nat.zero_le _⟩ (W' := [cob oh 11 [.ref os, .ref ok, .ref ol, .ref ord, .int isk, .ref odd, .ref otp, .int (nI tpd), .ref olt, .int oat, .int obg, .int otk, .int ovl, .ref orw, .int (nI rmn), .ref oso, .ref osz, .ref oit, .ref oho, .ref ohe, .ref otr, .int (nI tcd), .int own_, .int opt], cin g os 51 (mR stp laws z cnt fogs arms kinds faiths places moved), cin g ol 51 (mR stp laws z cnt fogs arms kinds faiths places moved), cin g odd 8 (stE laws fogs arms kinds cnt stp (upd faiths (ix goer) (nI k)) places moved de (ix n))]) rfl (fun H locs hw => ?_)
            refine lv_tope (y := (faiQ laws fogs arms (kinds (ix goer)) stp (places (ix goer)) (moved (ix goer)) (ix n)) k) (by rw [pk_us]; rfl) ?_
            refine lv_if_eq (tgt := 57) hx hb dX11_faithFor_52 (by decide) (fun c_5 => ?_) (fun c_5 => ?_)
            · have hc0 := c_5
              refine lv_iinc (v := nI (k + 1)) (lv' := [(3, .int (nI (k + 1))), (0, .ref oh), (1, .int goer), (2, .int n)]) hx hb dX11_faithFor_57 hl (k := 0) rfl (nI_1 _) (by decide) rfl (fun ls hl => ?_)
              refine lv_goto (tgt := 33) hx hb dX11_faithFor_60 (by decide) ?_
              exact ih_33 (k + 1) (stE laws fogs arms kinds cnt stp (upd faiths (ix goer) (nI k)) places moved de (ix n)) (by omega) (by omega) (by rw [eR, show 100 - k = (99 - k) + 1 by omega, show 100 - (k + 1) = 99 - k by omega]; exact if_pos hc0) _ _ hw _ (lv_sub hl [0, 1, 2, 3] rfl)
            · refine lv_iload_n hx hb dX11_faithFor_55 rfl (lv_at hl 0 rfl) ?_
              exact rE_i hf hr hlk hw ⟨congrArg some (by simp only [if_neg c_1, if_pos (nO_1 c_2)]; rw [eR, show 100 - k = (99 - k) + 1 by omega]; exact congrArg Value.int (if_neg c_5).symm), _, _, rfl⟩ (show ([oh, os, ol, odd] : List Nat) = [oh, os, ol, odd] from rfl) dX11_faithFor_56
      exact lp_33_2 (100 + 1) 0 dd (by omega) (by omega) (rfl) _ _ hw _ (lv_sub hl [0, 1, 2, 3] rfl)
    · refine lv_iconst (v := (-1)) hx hb dX11_faithFor_18 (by decide) ?_
      exact rE_i hf hr hlk hw ⟨congrArg some (by simp only [if_neg c_1, if_neg (nO_0 c_2)]), _, _, rfl⟩ (show ([oh, os, ol, odd] : List Nat) = [oh, os, ol, odd] from rfl) dX11_faithFor_19
