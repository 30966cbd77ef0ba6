theorem lwN_v (tso : Int32) (ws we : Nat) (byt : Nat → Int32) : f_X7_lawNamed tso ws we byt = -1 ∨ f_X7_lawNamed tso ws we byt = 0 ∨ f_X7_lawNamed tso ws we byt = 1 ∨ f_X7_lawNamed tso ws we byt = 2 ∨ f_X7_lawNamed tso ws we byt = 3 := by
  unfold f_X7_lawNamed
  repeat' split
  all_goals decide
theorem lwN_n {tso : Int32} {ws we : Nat} {byt : Nat → Int32} (h : ¬ f_X7_lawNamed tso ws we byt < 0) : f_X7_lawNamed tso ws we byt = nI (ix (f_X7_lawNamed tso ws we byt)) ∧ ix (f_X7_lawNamed tso ws we byt) < 4 := by
  rcases lwN_v tso ws we byt with e | e | e | e | e
  · rw [e] at h; exact absurd (by decide) h
  all_goals rw [e]; decide
theorem rg_z (tsz : Nat) (byt : Nat → Int32) (x0 : Nat) (cnt : Nat) : narrow .boolean (.int (f_X7_readGoer tsz byt x0 cnt)) = .int (f_X7_readGoer tsz byt x0 cnt) := by
  unfold f_X7_readGoer
  repeat' split
  all_goals rfl
theorem ro_z (tsz : Nat) (byt : Nat → Int32) (x0 : Nat) : narrow .boolean (.int (f_X7_readRoster tsz byt x0)) = .int (f_X7_readRoster tsz byt x0) := by
  unfold f_X7_readRoster
  repeat' split
  all_goals first | rfl | exact sm_z _ _ _
theorem rg_x {tsz : Nat} (byt : Nat → Int32) {x0 : Nat} (cnt : Nat) (htz : tsz ≤ 200) (hx0 : x0 ≤ tsz) : f_X7_readGoer_x tsz byt x0 cnt ≤ tsz := by
  have h1 := wdE_b byt htz hx0
  have h2 := wdE_b byt htz h1.2
  have h3 := wdE_b byt htz h2.2
  have h4 := wdE_b byt htz h3.2
  have h5 := wdE_b byt htz h4.2
  unfold f_X7_readGoer_x
  repeat' split
  all_goals omega
theorem ro_x {tsz : Nat} (byt : Nat → Int32) {x0 : Nat} (htz : tsz ≤ 200) (hx0 : x0 ≤ tsz) : f_X7_readRoster_x tsz byt x0 ≤ tsz := by
  have h1 := wdE_b byt htz hx0
  have h2 := wdE_b byt htz h1.2
  have h3 := wdE_b byt htz h2.2
  have h4 := wdE_b byt htz h3.2
  have h5 := wdE_b byt htz h4.2
  unfold f_X7_readRoster_x
  repeat' split
  all_goals omega
theorem lw_x {tsz : Nat} (byt : Nat → Int32) {x0 : Nat} (lw : Nat) (htz : tsz ≤ 200) (hx0 : x0 ≤ tsz) : f_X7_readLaw_x tsz byt x0 lw ≤ tsz := by
  have h1 := wdE_b byt htz hx0
  have h2 := wdE_b byt htz h1.2
  have h3 := wdE_b byt htz h2.2
  have h4 := wdE_b byt htz h3.2
  have h5 := wdE_b byt htz h4.2
  unfold f_X7_readLaw_x
  repeat' split
  all_goals omega
theorem rg_c (tsz : Nat) (byt : Nat → Int32) (x0 : Nat) {cnt : Nat} (h : cnt ≤ 8) : f_X7_readGoer_w1 tsz byt x0 cnt ≤ 8 := by
  rcases Nat.lt_or_ge cnt 8 with h8 | h8
  · unfold f_X7_readGoer_w1
    repeat' split
    all_goals omega
  · unfold f_X7_readGoer_w1
    rw [if_neg (by rw [show cnt = 8 by omega]; decide)]
    exact h
theorem hdV_X7_kindNamed : yX7_kindNamed.cls = RX7 ∧ yX7_kindNamed.cls ≠ "java/lang/invoke/MethodHandle" ∧ yX7_kindNamed.cls ≠ "java/lang/invoke/VarHandle" ∧ (parseMethodDescriptor yX7_kindNamed.desc).map (fun d => d.parameters.length) = some 0 := by decide +kernel
theorem hdV_X7_lawNamed : yX7_lawNamed.cls = RX7 ∧ yX7_lawNamed.cls ≠ "java/lang/invoke/MethodHandle" ∧ yX7_lawNamed.cls ≠ "java/lang/invoke/VarHandle" ∧ (parseMethodDescriptor yX7_lawNamed.desc).map (fun d => d.parameters.length) = some 0 := by decide +kernel
theorem hdV_X7_readLaw : yX7_readLaw.cls = RX7 ∧ yX7_readLaw.cls ≠ "java/lang/invoke/MethodHandle" ∧ yX7_readLaw.cls ≠ "java/lang/invoke/VarHandle" ∧ (parseMethodDescriptor yX7_readLaw.desc).map (fun d => d.parameters.length) = some 2 := by decide +kernel
theorem hdV_X7_readRoster : yX7_readRoster.cls = RX7 ∧ yX7_readRoster.cls ≠ "java/lang/invoke/MethodHandle" ∧ yX7_readRoster.cls ≠ "java/lang/invoke/VarHandle" ∧ (parseMethodDescriptor yX7_readRoster.desc).map (fun d => d.parameters.length) = some 1 := by decide +kernel
theorem hdV_X7_readGoer : yX7_readGoer.cls = RX7 ∧ yX7_readGoer.cls ≠ "java/lang/invoke/MethodHandle" ∧ yX7_readGoer.cls ≠ "java/lang/invoke/VarHandle" ∧ (parseMethodDescriptor yX7_readGoer.desc).map (fun d => d.parameters.length) = some 2 := by decide +kernel
def f_X7_readSentence (tsz : Nat) (byt : Nat → Int32) (x0 : Nat) (cnt : Nat) : Int32 := if (f_X7_kindNamed (wdO byt tsz x0) (wdS byt tsz x0) (wdE byt tsz x0) byt) < 0 then (if (nmR byt (wdO byt tsz x0) (wdS byt tsz x0) (wdE byt tsz x0) 6) = 0 then (if (nmR byt (wdO byt tsz x0) (wdS byt tsz x0) (wdE byt tsz x0) 7) = 0 then (if (f_X7_lawNamed (wdO byt tsz x0) (wdS byt tsz x0) (wdE byt tsz x0) byt) < 0 then 0 else (if (f_X7_readLaw tsz byt x0 (ix (f_X7_lawNamed (wdO byt tsz x0) (wdS byt tsz x0) (wdE byt tsz x0) byt))) = 0 then 0 else 1)) else (f_X7_readRoster tsz byt x0)) else (f_X7_readRoster tsz byt x0)) else (f_X7_readGoer tsz byt x0 cnt)
def f_X7_readSentence_x (tsz : Nat) (byt : Nat → Int32) (x0 : Nat) (cnt : Nat) : Nat := if (f_X7_kindNamed (wdO byt tsz x0) (wdS byt tsz x0) (wdE byt tsz x0) byt) < 0 then (if (nmR byt (wdO byt tsz x0) (wdS byt tsz x0) (wdE byt tsz x0) 6) = 0 then (if (nmR byt (wdO byt tsz x0) (wdS byt tsz x0) (wdE byt tsz x0) 7) = 0 then (if (f_X7_lawNamed (wdO byt tsz x0) (wdS byt tsz x0) (wdE byt tsz x0) byt) < 0 then x0 else (f_X7_readLaw_x tsz byt x0 (ix (f_X7_lawNamed (wdO byt tsz x0) (wdS byt tsz x0) (wdE byt tsz x0) byt)))) else (f_X7_readRoster_x tsz byt x0)) else (f_X7_readRoster_x tsz byt x0)) else (f_X7_readGoer_x tsz byt x0 cnt)
def f_X7_readSentence_w1 (tsz : Nat) (byt : Nat → Int32) (x0 : Nat) (cnt : Nat) : Nat := if (f_X7_kindNamed (wdO byt tsz x0) (wdS byt tsz x0) (wdE byt tsz x0) byt) < 0 then cnt else (f_X7_readGoer_w1 tsz byt x0 cnt)
def f_X7_readSentence_w2 (tsz : Nat) (byt : Nat → Int32) (x0 : Nat) (laws : Nat → Int32) : Nat → Int32 := if (f_X7_kindNamed (wdO byt tsz x0) (wdS byt tsz x0) (wdE byt tsz x0) byt) < 0 then (if (nmR byt (wdO byt tsz x0) (wdS byt tsz x0) (wdE byt tsz x0) 6) = 0 then (if (nmR byt (wdO byt tsz x0) (wdS byt tsz x0) (wdE byt tsz x0) 7) = 0 then (if (f_X7_lawNamed (wdO byt tsz x0) (wdS byt tsz x0) (wdE byt tsz x0) byt) < 0 then laws else (f_X7_readLaw_w1 tsz byt x0 laws (ix (f_X7_lawNamed (wdO byt tsz x0) (wdS byt tsz x0) (wdE byt tsz x0) byt)))) else laws) else laws) else laws
def f_X7_readSentence_w3 (tsz : Nat) (byt : Nat → Int32) (x0 : Nat) (fogs : Nat → Int32) : Nat → Int32 := if (f_X7_kindNamed (wdO byt tsz x0) (wdS byt tsz x0) (wdE byt tsz x0) byt) < 0 then (if (nmR byt (wdO byt tsz x0) (wdS byt tsz x0) (wdE byt tsz x0) 6) = 0 then fogs else (f_X7_readRoster_w1 tsz byt x0 fogs)) else fogs
def f_X7_readSentence_w4 (tsz : Nat) (byt : Nat → Int32) (x0 : Nat) (arms : Nat → Int32) : Nat → Int32 := if (f_X7_kindNamed (wdO byt tsz x0) (wdS byt tsz x0) (wdE byt tsz x0) byt) < 0 then (if (nmR byt (wdO byt tsz x0) (wdS byt tsz x0) (wdE byt tsz x0) 6) = 0 then (if (nmR byt (wdO byt tsz x0) (wdS byt tsz x0) (wdE byt tsz x0) 7) = 0 then arms else (f_X7_readRoster_w1 tsz byt x0 arms)) else arms) else arms
def f_X7_readSentence_w5 (tsz : Nat) (byt : Nat → Int32) (x0 : Nat) (kinds : Nat → Int32) (cnt : Nat) : Nat → Int32 := if (f_X7_kindNamed (wdO byt tsz x0) (wdS byt tsz x0) (wdE byt tsz x0) byt) < 0 then kinds else (f_X7_readGoer_w2 tsz byt x0 kinds cnt (f_X7_kindNamed (wdO byt tsz x0) (wdS byt tsz x0) (wdE byt tsz x0) byt))
def f_X7_readSentence_w6 (tsz : Nat) (byt : Nat → Int32) (x0 : Nat) (faiths : Nat → Int32) (cnt : Nat) : Nat → Int32 := if (f_X7_kindNamed (wdO byt tsz x0) (wdS byt tsz x0) (wdE byt tsz x0) byt) < 0 then faiths else (f_X7_readGoer_w3 tsz byt x0 faiths cnt)
def f_X7_readSentence_w7 (tsz : Nat) (byt : Nat → Int32) (x0 : Nat) (places : Nat → Int32) (cnt : Nat) : Nat → Int32 := if (f_X7_kindNamed (wdO byt tsz x0) (wdS byt tsz x0) (wdE byt tsz x0) byt) < 0 then places else (f_X7_readGoer_w4 tsz byt x0 places cnt)
def f_X7_readSentence_w8 (tsz : Nat) (byt : Nat → Int32) (x0 : Nat) (moved : Nat → Int32) (cnt : Nat) : Nat → Int32 := if (f_X7_kindNamed (wdO byt tsz x0) (wdS byt tsz x0) (wdE byt tsz x0) byt) < 0 then moved else (f_X7_readGoer_w5 tsz byt x0 moved cnt)
abbrev rmX7_readSentence : Room := { frames := 6, cells := 0, slots := 0, locals := 131 }
set_option maxHeartbeats 4000000 in
set_option maxRecDepth 100000 in
theorem c_X7_readSentence (l : Launch) (g : GG) (ltp : Nat) (lby : Nat) (tsz : Nat) (byt : Nat → Int32) (x0 : Nat) (t : Nat) (tl : Nat) (tf : Nat) (ta : Nat) (tk : Nat) (tg : Nat) (tp : Nat) (tm : Nat) (laws : Nat → Int32) (fogs : Nat → Int32) (arms : Nat → Int32) (kinds : Nat → Int32) (faiths : Nat → Int32) (places : Nat → Int32) (moved : Nat → Int32) (cnt : Nat) (stp : Nat) (z : Int32) (ak : Nat) (hx0 : x0 ≤ tsz) (htz : tsz ≤ 200) (hcn : cnt ≤ 8) : mt l g yX7_readSentence wsX7_readSentence rmX7_readSentence [.ref ltp, .ref t] [cob ltp 7 [.ref lby, .int (nI tsz), .int (wdO byt tsz x0), .int (nI (wdS byt tsz x0)), .int (nI (wdE byt tsz x0))], cby g lby 200 byt, cob t 8 [.ref ak, .ref tl, .ref tf, .ref ta, .ref tk, .ref tg, .ref tp, .ref tm, .int (nI cnt), .int (nI stp), .int z], cin g tl 4 laws, cin g tf 6 fogs, cin g ta 6 arms, cin g tk 8 kinds, cin g tg 8 faiths, cin g tp 8 places, cin g tm 8 moved] (some (.int (f_X7_readSentence tsz byt x0 cnt))) [cob ltp 7 [.ref lby, .int (nI tsz), .int (wdO byt tsz (f_X7_readSentence_x tsz byt x0 cnt)), .int (nI (wdS byt tsz (f_X7_readSentence_x tsz byt x0 cnt))), .int (nI (wdE byt tsz (f_X7_readSentence_x tsz byt x0 cnt)))], cby g lby 200 byt, cob t 8 [.ref ak, .ref tl, .ref tf, .ref ta, .ref tk, .ref tg, .ref tp, .ref tm, .int (nI (f_X7_readSentence_w1 tsz byt x0 cnt)), .int (nI stp), .int z], cin g tl 4 (f_X7_readSentence_w2 tsz byt x0 laws), cin g tf 6 (f_X7_readSentence_w3 tsz byt x0 fogs), cin g ta 6 (f_X7_readSentence_w4 tsz byt x0 arms), cin g tk 8 (f_X7_readSentence_w5 tsz byt x0 kinds cnt), cin g tg 8 (f_X7_readSentence_w6 tsz byt x0 faiths cnt), cin g tp 8 (f_X7_readSentence_w7 tsz byt x0 places cnt), cin g tm 8 (f_X7_readSentence_w8 tsz byt x0 moved cnt)] := by
  refine mt.of (cc := cX7_readSentence) (nL := 4) (ret := (some .boolean)) (own := RX7) (by decide +kernel) rfl rfl (show ([ltp, lby, t, tl, tf, ta, tk, tg, tp, tm] : List Nat) = [ltp, lby, t, tl, tf, ta, tk, tg, tp, tm] from rfl) (Nat.le_of_ble_eq_true rfl) (fun p e s m below meth c hf hr hlk _ hk hst hw ls hl => ?_)
  have hx := hf.1
  have hb := hf.2.1
  have hts := hf.2.2.2.2
  have hl : lv_has ls 4 [(0, .ref ltp), (1, .ref t)] := hl
  have h1 := wdE_b byt htz hx0
  have h2 := wdE_b byt htz h1.2
  have h3 := wdE_b byt htz h2.2
  have h4 := wdE_b byt htz h3.2
  have h5 := wdE_b byt htz h4.2
  have hinX8 : ∀ w ∈ u_ws RX8 TX8 11, w ∈ wsX7_readSentence := fun w h => List.mem_cons_of_mem _ (List.mem_append_left _ (List.mem_append_right _ h))
  have w_0 : Cond.fieldLink RX7 64 "LightMan$Tunnel" "arms" "[I" ∈ wsX7_readSentence := List.mem_of_getElem? (i := 2) rfl
  have w_1 : Cond.fieldLink RX7 54 "LightMan$Tunnel" "fogs" "[I" ∈ wsX7_readSentence := List.mem_of_getElem? (i := 1) rfl
  refine lv_aload_n hx hb dX7_readSentence_0 rfl (lv_at hl 0 rfl) ?_
  refine mcV hf hk hst hw (c_X7_kindNamed l g ltp lby tsz (wdO byt tsz x0) (wdS byt tsz x0) (wdE byt tsz x0) byt (by omega) (by omega)) (cwV 0 hts gX7_readSentence_X7_kindNamed rfl rfl rfl hdV_X7_kindNamed ⟨Nat.le_of_ble_eq_true rfl, Nat.le_of_ble_eq_true rfl⟩) [0, 1] rfl rfl 0 rfl rfl rfl hl.1 rfl (Nat.le_of_ble_eq_true rfl) dX7_readSentence_1 ⟨Nat.zero_le _, Nat.zero_le _⟩ (W' := [cob ltp 7 [.ref lby, .int (nI tsz), .int (wdO byt tsz x0), .int (nI (wdS byt tsz x0)), .int (nI (wdE byt tsz x0))], cby g lby 200 byt, cob t 8 [.ref ak, .ref tl, .ref tf, .ref ta, .ref tk, .ref tg, .ref tp, .ref tm, .int (nI cnt), .int (nI stp), .int z], cin g tl 4 laws, cin g tf 6 fogs, cin g ta 6 arms, cin g tk 8 kinds, cin g tg 8 faiths, cin g tp 8 places, cin g tm 8 moved]) rfl (fun H locs hw => ?_)
  refine lv_istore_n (lv' := [(2, .int (f_X7_kindNamed (wdO byt tsz x0) (wdS byt tsz x0) (wdE byt tsz x0) byt)), (0, .ref ltp), (1, .ref t)]) hx hb dX7_readSentence_4 rfl hl (by decide) rfl (fun ls hl => ?_)
  refine lv_iload_n hx hb dX7_readSentence_5 rfl (lv_at hl 0 rfl) ?_
  refine lv_if_lt (tgt := 16) hx hb dX7_readSentence_6 (by decide) (fun c_1 => ?_) (fun c_1 => ?_)
  · refine lv_aload_n hx hb dX7_readSentence_16 rfl (lv_at hl 1 rfl) ?_
    refine va_ldcS hx hb hf.2.2.2.1 (show vk_R RX7 48 "fog" (gA g 6) s from hk.2.2.2.1 6 (by decide)) dX7_readSentence_17 ?_
    refine mcV hf hk hst hw (c_X7_isName l g ltp lby tsz (wdO byt tsz x0) (wdS byt tsz x0) (wdE byt tsz x0) byt 6 (by omega) (by omega) (by decide)) (cwV 1 hts gX7_readSentence_X7_isName rfl rfl rfl hdV_X7_isName ⟨Nat.le_of_ble_eq_true rfl, Nat.le_of_ble_eq_true rfl⟩) [0, 1] rfl rfl 0 rfl rfl rfl hl.1 rfl (Nat.le_of_ble_eq_true rfl) dX7_readSentence_19 ⟨Nat.zero_le _, Nat.zero_le _⟩ (W' := [cob ltp 7 [.ref lby, .int (nI tsz), .int (wdO byt tsz x0), .int (nI (wdS byt tsz x0)), .int (nI (wdE byt tsz x0))], cby g lby 200 byt, cob t 8 [.ref ak, .ref tl, .ref tf, .ref ta, .ref tk, .ref tg, .ref tp, .ref tm, .int (nI cnt), .int (nI stp), .int z], cin g tl 4 laws, cin g tf 6 fogs, cin g ta 6 arms, cin g tk 8 kinds, cin g tg 8 faiths, cin g tp 8 places, cin g tm 8 moved]) rfl (fun H locs hw => ?_)
    refine lv_if_eq (tgt := 34) hx hb dX7_readSentence_22 (by decide) (fun c_2 => ?_) (fun c_2 => ?_)
    · refine lv_aload_n hx hb dX7_readSentence_34 rfl (lv_at hl 1 rfl) ?_
      refine va_ldcS hx hb hf.2.2.2.1 (show vk_R RX7 62 "arms" (gA g 7) s from hk.2.2.2.1 7 (by decide)) dX7_readSentence_35 ?_
      refine mcV hf hk hst hw (c_X7_isName l g ltp lby tsz (wdO byt tsz x0) (wdS byt tsz x0) (wdE byt tsz x0) byt 7 (by omega) (by omega) (by decide)) (cwV 1 hts gX7_readSentence_X7_isName rfl rfl rfl hdV_X7_isName ⟨Nat.le_of_ble_eq_true rfl, Nat.le_of_ble_eq_true rfl⟩) [0, 1] rfl rfl 0 rfl rfl rfl hl.1 rfl (Nat.le_of_ble_eq_true rfl) dX7_readSentence_37 ⟨Nat.zero_le _, Nat.zero_le _⟩ (W' := [cob ltp 7 [.ref lby, .int (nI tsz), .int (wdO byt tsz x0), .int (nI (wdS byt tsz x0)), .int (nI (wdE byt tsz x0))], cby g lby 200 byt, cob t 8 [.ref ak, .ref tl, .ref tf, .ref ta, .ref tk, .ref tg, .ref tp, .ref tm, .int (nI cnt), .int (nI stp), .int z], cin g tl 4 laws, cin g tf 6 fogs, cin g ta 6 arms, cin g tk 8 kinds, cin g tg 8 faiths, cin g tp 8 places, cin g tm 8 moved]) rfl (fun H locs hw => ?_)
      refine lv_if_eq (tgt := 52) hx hb dX7_readSentence_40 (by decide) (fun c_3 => ?_) (fun c_3 => ?_)
      · refine lv_aload_n hx hb dX7_readSentence_52 rfl (lv_at hl 1 rfl) ?_
        refine mcV hf hk hst hw (c_X7_lawNamed l g ltp lby tsz (wdO byt tsz x0) (wdS byt tsz x0) (wdE byt tsz x0) byt (by omega) (by omega)) (cwV 0 hts gX7_readSentence_X7_lawNamed rfl rfl rfl hdV_X7_lawNamed ⟨Nat.le_of_ble_eq_true rfl, Nat.le_of_ble_eq_true rfl⟩) [0, 1] rfl rfl 0 rfl rfl rfl hl.1 rfl (Nat.le_of_ble_eq_true rfl) dX7_readSentence_53 ⟨Nat.zero_le _, Nat.zero_le _⟩ (W' := [cob ltp 7 [.ref lby, .int (nI tsz), .int (wdO byt tsz x0), .int (nI (wdS byt tsz x0)), .int (nI (wdE byt tsz x0))], cby g lby 200 byt, cob t 8 [.ref ak, .ref tl, .ref tf, .ref ta, .ref tk, .ref tg, .ref tp, .ref tm, .int (nI cnt), .int (nI stp), .int z], cin g tl 4 laws, cin g tf 6 fogs, cin g ta 6 arms, cin g tk 8 kinds, cin g tg 8 faiths, cin g tp 8 places, cin g tm 8 moved]) rfl (fun H locs hw => ?_)
        refine lv_istore_n (lv' := [(3, .int (f_X7_lawNamed (wdO byt tsz x0) (wdS byt tsz x0) (wdE byt tsz x0) byt)), (2, .int (f_X7_kindNamed (wdO byt tsz x0) (wdS byt tsz x0) (wdE byt tsz x0) byt)), (0, .ref ltp), (1, .ref t)]) hx hb dX7_readSentence_56 rfl hl (by decide) rfl (fun ls hl => ?_)
        refine lv_iload_n hx hb dX7_readSentence_57 rfl (lv_at hl 0 rfl) ?_
        refine lv_if_lt (tgt := 74) hx hb dX7_readSentence_58 (by decide) (fun c_4 => ?_) (fun c_4 => ?_)
        · refine lv_iconst (v := 0) hx hb dX7_readSentence_74 (by decide) ?_
          exact re_z hf hr hlk hw (rfl) (by simp only [f_X7_readSentence, if_pos c_1, if_pos c_2, if_pos c_3, if_pos c_4]) (by simp only [f_X7_readSentence_x, f_X7_readSentence_w1, f_X7_readSentence_w2, f_X7_readSentence_w3, f_X7_readSentence_w4, f_X7_readSentence_w5, f_X7_readSentence_w6, f_X7_readSentence_w7, f_X7_readSentence_w8, if_pos c_1, if_pos c_2, if_pos c_3, if_pos c_4]) dX7_readSentence_75
        · have hw3 := lwN_n c_4
          have hw4 := hw3.2
          refine lv_aload_n hx hb dX7_readSentence_61 rfl (lv_at hl 2 rfl) ?_
          refine lv_aload_n hx hb dX7_readSentence_62 rfl (lv_at hl 3 rfl) ?_
          refine lv_iload_n hx hb dX7_readSentence_63 rfl (lv_at hl 0 rfl) ?_
          refine lv_tope (y := nI (ix (f_X7_lawNamed (wdO byt tsz x0) (wdS byt tsz x0) (wdE byt tsz x0) byt))) hw3.1 ?_
          refine mcV hf hk hst hw (c_X7_readLaw l g ltp lby tsz byt x0 t tl tf ta tk tg tp tm laws cnt stp z ak (ix (f_X7_lawNamed (wdO byt tsz x0) (wdS byt tsz x0) (wdE byt tsz x0) byt)) (by omega) (by omega) (by omega)) (cwV 2 hts gX7_readSentence_X7_readLaw rfl rfl rfl hdV_X7_readLaw ⟨Nat.le_of_ble_eq_true rfl, Nat.le_of_ble_eq_true rfl⟩) [0, 1, 2, 3] rfl rfl 0 rfl rfl rfl hl.1 rfl (Nat.le_of_ble_eq_true rfl) dX7_readSentence_64 ⟨Nat.zero_le _, Nat.zero_le _⟩ (W' := [cob ltp 7 [.ref lby, .int (nI tsz), .int (wdO byt tsz (f_X7_readLaw_x tsz byt x0 (ix (f_X7_lawNamed (wdO byt tsz x0) (wdS byt tsz x0) (wdE byt tsz x0) byt)))), .int (nI (wdS byt tsz (f_X7_readLaw_x tsz byt x0 (ix (f_X7_lawNamed (wdO byt tsz x0) (wdS byt tsz x0) (wdE byt tsz x0) byt))))), .int (nI (wdE byt tsz (f_X7_readLaw_x tsz byt x0 (ix (f_X7_lawNamed (wdO byt tsz x0) (wdS byt tsz x0) (wdE byt tsz x0) byt)))))], cby g lby 200 byt, cob t 8 [.ref ak, .ref tl, .ref tf, .ref ta, .ref tk, .ref tg, .ref tp, .ref tm, .int (nI cnt), .int (nI stp), .int z], cin g tl 4 (f_X7_readLaw_w1 tsz byt x0 laws (ix (f_X7_lawNamed (wdO byt tsz x0) (wdS byt tsz x0) (wdE byt tsz x0) byt))), cin g tf 6 fogs, cin g ta 6 arms, cin g tk 8 kinds, cin g tg 8 faiths, cin g tp 8 places, cin g tm 8 moved]) rfl (fun H locs hw => ?_)
          refine lv_if_eq (tgt := 74) hx hb dX7_readSentence_67 (by decide) (fun c_5 => ?_) (fun c_5 => ?_)
          · refine lv_iconst (v := 0) hx hb dX7_readSentence_74 (by decide) ?_
            exact re_z hf hr hlk hw (rfl) (by simp only [f_X7_readSentence, if_pos c_1, if_pos c_2, if_pos c_3, if_neg c_4, if_pos c_5]) (by simp only [f_X7_readSentence_x, f_X7_readSentence_w1, f_X7_readSentence_w2, f_X7_readSentence_w3, f_X7_readSentence_w4, f_X7_readSentence_w5, f_X7_readSentence_w6, f_X7_readSentence_w7, f_X7_readSentence_w8, if_pos c_1, if_pos c_2, if_pos c_3, if_neg c_4, if_pos c_5]) dX7_readSentence_75
          · refine lv_iconst (v := 1) hx hb dX7_readSentence_70 (by decide) ?_
            refine lv_goto (tgt := 75) hx hb dX7_readSentence_71 (by decide) ?_
            exact re_z hf hr hlk hw (rfl) (by simp only [f_X7_readSentence, if_pos c_1, if_pos c_2, if_pos c_3, if_neg c_4, if_neg c_5]) (by simp only [f_X7_readSentence_x, f_X7_readSentence_w1, f_X7_readSentence_w2, f_X7_readSentence_w3, f_X7_readSentence_w4, f_X7_readSentence_w5, f_X7_readSentence_w6, f_X7_readSentence_w7, f_X7_readSentence_w8, if_pos c_1, if_pos c_2, if_pos c_3, if_neg c_4, if_neg c_5]) dX7_readSentence_75
      · refine lv_aload_n hx hb dX7_readSentence_43 rfl (lv_at hl 1 rfl) ?_
        refine lv_aload_n hx hb dX7_readSentence_44 rfl (lv_at hl 2 rfl) ?_
        refine rg hf hk hw hinX8 2 rfl rfl 3 (by decide) w_0 rfl dX7_readSentence_45 ?_
        refine mcV hf hk hst hw (c_X7_readRoster l g ltp lby tsz byt x0 ta arms (by omega) (by omega)) (cwV 1 hts gX7_readSentence_X7_readRoster rfl rfl rfl hdV_X7_readRoster ⟨Nat.le_of_ble_eq_true rfl, Nat.le_of_ble_eq_true rfl⟩) [0, 1, 5] rfl rfl 0 rfl rfl rfl hl.1 rfl (Nat.le_of_ble_eq_true rfl) dX7_readSentence_48 ⟨Nat.zero_le _, Nat.zero_le _⟩ (W' := [cob ltp 7 [.ref lby, .int (nI tsz), .int (wdO byt tsz (f_X7_readRoster_x tsz byt x0)), .int (nI (wdS byt tsz (f_X7_readRoster_x tsz byt x0))), .int (nI (wdE byt tsz (f_X7_readRoster_x tsz byt x0)))], cby g lby 200 byt, cob t 8 [.ref ak, .ref tl, .ref tf, .ref ta, .ref tk, .ref tg, .ref tp, .ref tm, .int (nI cnt), .int (nI stp), .int z], cin g tl 4 laws, cin g tf 6 fogs, cin g ta 6 (f_X7_readRoster_w1 tsz byt x0 arms), cin g tk 8 kinds, cin g tg 8 faiths, cin g tp 8 places, cin g tm 8 moved]) rfl (fun H locs hw => ?_)
        exact re_z hf hr hlk hw (ro_z _ _ _) (by simp only [f_X7_readSentence, if_pos c_1, if_pos c_2, if_neg c_3]) (by simp only [f_X7_readSentence_x, f_X7_readSentence_w1, f_X7_readSentence_w2, f_X7_readSentence_w3, f_X7_readSentence_w4, f_X7_readSentence_w5, f_X7_readSentence_w6, f_X7_readSentence_w7, f_X7_readSentence_w8, if_pos c_1, if_pos c_2, if_neg c_3]) dX7_readSentence_51
    · refine lv_aload_n hx hb dX7_readSentence_25 rfl (lv_at hl 1 rfl) ?_
      refine lv_aload_n hx hb dX7_readSentence_26 rfl (lv_at hl 2 rfl) ?_
      refine rg hf hk hw hinX8 2 rfl rfl 2 (by decide) w_1 rfl dX7_readSentence_27 ?_
      refine mcV hf hk hst hw (c_X7_readRoster l g ltp lby tsz byt x0 tf fogs (by omega) (by omega)) (cwV 1 hts gX7_readSentence_X7_readRoster rfl rfl rfl hdV_X7_readRoster ⟨Nat.le_of_ble_eq_true rfl, Nat.le_of_ble_eq_true rfl⟩) [0, 1, 4] rfl rfl 0 rfl rfl rfl hl.1 rfl (Nat.le_of_ble_eq_true rfl) dX7_readSentence_30 ⟨Nat.zero_le _, Nat.zero_le _⟩ (W' := [cob ltp 7 [.ref lby, .int (nI tsz), .int (wdO byt tsz (f_X7_readRoster_x tsz byt x0)), .int (nI (wdS byt tsz (f_X7_readRoster_x tsz byt x0))), .int (nI (wdE byt tsz (f_X7_readRoster_x tsz byt x0)))], cby g lby 200 byt, cob t 8 [.ref ak, .ref tl, .ref tf, .ref ta, .ref tk, .ref tg, .ref tp, .ref tm, .int (nI cnt), .int (nI stp), .int z], cin g tl 4 laws, cin g tf 6 (f_X7_readRoster_w1 tsz byt x0 fogs), cin g ta 6 arms, cin g tk 8 kinds, cin g tg 8 faiths, cin g tp 8 places, cin g tm 8 moved]) rfl (fun H locs hw => ?_)
      exact re_z hf hr hlk hw (ro_z _ _ _) (by simp only [f_X7_readSentence, if_pos c_1, if_neg c_2]) (by simp only [f_X7_readSentence_x, f_X7_readSentence_w1, f_X7_readSentence_w2, f_X7_readSentence_w3, f_X7_readSentence_w4, f_X7_readSentence_w5, f_X7_readSentence_w6, f_X7_readSentence_w7, f_X7_readSentence_w8, if_pos c_1, if_neg c_2]) dX7_readSentence_33
  · refine lv_aload_n hx hb dX7_readSentence_9 rfl (lv_at hl 1 rfl) ?_
    refine lv_aload_n hx hb dX7_readSentence_10 rfl (lv_at hl 2 rfl) ?_
    refine lv_iload_n hx hb dX7_readSentence_11 rfl (lv_at hl 0 rfl) ?_
    refine mcV hf hk hst hw (c_X7_readGoer l g ltp lby tsz byt x0 t tl tf ta tk tg tp tm kinds faiths places moved cnt stp z ak (f_X7_kindNamed (wdO byt tsz x0) (wdS byt tsz x0) (wdE byt tsz x0) byt) (by omega) (by omega) (by omega)) (cwV 2 hts gX7_readSentence_X7_readGoer rfl rfl rfl hdV_X7_readGoer ⟨Nat.le_of_ble_eq_true rfl, Nat.le_of_ble_eq_true rfl⟩) [0, 1, 2, 6, 7, 8, 9] rfl rfl 0 rfl rfl rfl hl.1 rfl (Nat.le_of_ble_eq_true rfl) dX7_readSentence_12 ⟨Nat.zero_le _, Nat.zero_le _⟩ (W' := [cob ltp 7 [.ref lby, .int (nI tsz), .int (wdO byt tsz (f_X7_readGoer_x tsz byt x0 cnt)), .int (nI (wdS byt tsz (f_X7_readGoer_x tsz byt x0 cnt))), .int (nI (wdE byt tsz (f_X7_readGoer_x tsz byt x0 cnt)))], cby g lby 200 byt, cob t 8 [.ref ak, .ref tl, .ref tf, .ref ta, .ref tk, .ref tg, .ref tp, .ref tm, .int (nI (f_X7_readGoer_w1 tsz byt x0 cnt)), .int (nI stp), .int z], cin g tl 4 laws, cin g tf 6 fogs, cin g ta 6 arms, cin g tk 8 (f_X7_readGoer_w2 tsz byt x0 kinds cnt (f_X7_kindNamed (wdO byt tsz x0) (wdS byt tsz x0) (wdE byt tsz x0) byt)), cin g tg 8 (f_X7_readGoer_w3 tsz byt x0 faiths cnt), cin g tp 8 (f_X7_readGoer_w4 tsz byt x0 places cnt), cin g tm 8 (f_X7_readGoer_w5 tsz byt x0 moved cnt)]) rfl (fun H locs hw => ?_)
    exact re_z hf hr hlk hw (rg_z _ _ _ _) (by simp only [f_X7_readSentence, if_neg c_1]) (by simp only [f_X7_readSentence_x, f_X7_readSentence_w1, f_X7_readSentence_w2, f_X7_readSentence_w3, f_X7_readSentence_w4, f_X7_readSentence_w5, f_X7_readSentence_w6, f_X7_readSentence_w7, f_X7_readSentence_w8, if_neg c_1]) dX7_readSentence_15
