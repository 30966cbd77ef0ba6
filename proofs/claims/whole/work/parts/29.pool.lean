section CORE29
variable {p : Program} {l : Launch} {e : Env} {R : Room} {s : State} {m : MethodId} {args : Array Value} {below : List Frame} {meth : Method} {c : Code} {H : Heap} {locs : List Loc} {cells slots : Nat} {Q : State → Prop}
variable {cc : ByteArray} {nL pc : Nat} {Ts : List Cond} {own : String} {ls : Array Slot} {rest st0 : List Value} {g : GG} {A : Nat → Prop} {W0 : va_W} {a : Nat}
/-- Items[]: a row stored -/
theorem rqs (hf : CallFix p m c cc nL s args Ts own) (hk : kk g s) (hw : hv g A s H locs W0) (q0 qk : Nat) {n v : Nat} {vs : List Value} {f : Nat → Option Nat} (ha : W0[q0]? = some (a, .inl (gT g, n, .inr (.inr (.inr (.inr f)))))) (hv0 : W0[qk]? = some (v, .inr (3, vs))) {i : Int32} {j : Nat} (hin : vp_in i n) (hj : i.toNatClampNeg = j) (hdg : decode cc pc = .ok (.aastore, 1)) {W' : va_W} (hW' : W0.set q0 (a, .inl (gT g, n, .inr (.inr (.inr (.inr (va_up f j (some v))))))) = W')
    (kk : ∀ (H1 : Heap) (locs1 : List Loc), hv g A s H1 locs1 W' → W p l e R s m args below meth c H1 locs1 cells slots Q (F0 m (pc + 1) ls rest)) : W p l e R s m args below meth c H locs cells slots Q (F0 m pc ls (.ref v :: .int i :: .ref a :: rest)) := by
  subst hj; subst hW'
  exact va_astq hf.1 hf.2.1 hk.1 hw.1 hw.2.1 hw.2.2 q0 4 qk 3 (r := (RX3, TX3, 2)) ha rfl hv0 rfl hin hdg (fun H1 locs1 h1 h2 h3 => kk H1 locs1 ⟨h1, h2, h3⟩)
/-- Items[]: null stored -/
theorem rqn (hf : CallFix p m c cc nL s args Ts own) (hk : kk g s) (hw : hv g A s H locs W0) (q0 : Nat) {n : Nat} {f : Nat → Option Nat} (ha : W0[q0]? = some (a, .inl (gT g, n, .inr (.inr (.inr (.inr f)))))) {i : Int32} {j : Nat} (hin : vp_in i n) (hj : i.toNatClampNeg = j) (hdg : decode cc pc = .ok (.aastore, 1)) {W' : va_W} (hW' : W0.set q0 (a, .inl (gT g, n, .inr (.inr (.inr (.inr (va_up f j none)))))) = W')
    (kk : ∀ (H1 : Heap) (locs1 : List Loc), hv g A s H1 locs1 W' → W p l e R s m args below meth c H1 locs1 cells slots Q (F0 m (pc + 1) ls rest)) : W p l e R s m args below meth c H locs cells slots Q (F0 m pc ls (.null :: .int i :: .ref a :: rest)) := by
  subst hj; subst hW'
  exact va_astqN hf.1 hf.2.1 hk.1 hw.1 hw.2.1 hw.2.2 q0 4 ha rfl hin hdg (fun H1 locs1 h1 h2 h3 => kk H1 locs1 ⟨h1, h2, h3⟩)
end CORE29
theorem out_m1 {n : Nat} {x : Int32} (hn : n ≤ 40) (h : f_X10_isOutside x 0 (nI n - 1) = 0) : x = nI (ix x) ∧ ix x < n := by
  cases n with
  | zero =>
    have h3 := out_0 h
    have h4 : x ≤ nI 0 - 1 := Int32.not_lt.mp h3.2
    exfalso
    have h5 : (nI 0 - 1 : Int32) < 0 := by decide
    exact h3.1 (Int32.lt_of_le_of_lt h4 h5)
  | succ r =>
    rw [nI_pred] at h
    have hx := out_n (N := r) (nI_toInt (by omega)) h
    exact ⟨hx.1, by have := hx.2; omega⟩
theorem isK_in {x : Int32} (h : isK x) : vp_in x 6 := by
  rcases h with rfl | rfl | rfl | rfl | rfl | rfl <;> (unfold vp_in; decide)
/-- faiths taken from a row -/
def mindF (fs ivs : Nat → Int32) (g0 i0 : Nat) : Nat → Nat → Int32
  | 0 => fs
  | k + 1 => upd (mindF fs ivs g0 i0 k) (g0 + k) (hF (ivs (i0 + k)))
def fitQ (laws fogs arms : Nat → Int32) (kd : Int32) (st : Nat) (pl mo : Int32) (told : Nat → Int32) (n : Nat) : Nat → Int32 := fun f => gbR told (itP laws fogs arms kd st (nI f) pl mo) n 0
/-- downwards from 99, k of them: how many fit, and the least that does -/
def fitR (V : Nat → Int32) : Nat → Nat × Int32
  | 0 => (0, -3)
  | k + 1 => if V (99 - k) = 0 then fitR V k else ((fitR V k).1 + 1, nI (99 - k))
theorem fitR_le (V : Nat → Int32) : ∀ k, (fitR V k).1 ≤ k
  | 0 => Nat.le_refl _
  | k + 1 => by
    unfold fitR
    split
    · exact Nat.le_succ_of_le (fitR_le V k)
    · exact Nat.succ_le_succ (fitR_le V k)
theorem hd_end {k : Nat} (hk : k ≤ 100) (h : nI (100 - k) - 1 < 0) : k = 100 := by
  rcases Nat.lt_or_ge k 100 with q | q
  · rw [show 100 - k = (99 - k) + 1 by omega, nI_pred] at h; exact absurd h (nI_pos (by omega))
  · omega
theorem hd_go {k : Nat} (h : ¬ nI (100 - k) - 1 < 0) : k < 100 := by
  rcases Nat.lt_or_ge k 100 with q | q
  · exact q
  · rw [show 100 - k = 0 by omega] at h; exact absurd (by decide) h
theorem hd_p1 {k : Nat} (h : k < 100) : nI (100 - k) - 1 = nI (99 - k) := by rw [show 100 - k = (99 - k) + 1 by omega]; exact nI_pred _
def f_X3_narrowed (iso : Int32) (v : Int32) : Int32 := if iso = 0 then v.toInt8.toInt32 else (if iso = 1 then v.toInt16.toInt32 else v)
abbrev rmX3_narrowed : Room := { frames := 0, cells := 0, slots := 0, locals := 0 }
set_option maxHeartbeats 4000000 in
set_option maxRecDepth 100000 in
theorem c_X3_narrowed (l : Launch) (g : GG) (ia : Nat) (iv : Nat) (iso : Int32) (v : Int32) : mt l g yX3_narrowed wsX3_narrowed rmX3_narrowed [.ref ia, .int v] [cob ia 3 [.int iso, .ref iv]] (some (.int (f_X3_narrowed iso v))) [cob ia 3 [.int iso, .ref iv]] := by
  refine mt.of (cc := cX3_narrowed) (nL := 2) (ret := (some .int)) (own := RX3) (by decide +kernel) rfl rfl (show ([ia] : List Nat) = [ia] from rfl) (Nat.le_of_ble_eq_true rfl) (fun p e s m below meth c hf hr hlk _ hk hst hw ls hl => ?_)
  have hx := hf.1
  have hb := hf.2.1
  have hts := hf.2.2.2.2
  have hl : lv_has ls 2 [(0, .ref ia), (1, .int v)] := hl
  have hinX3 : ∀ w ∈ u_ws RX3 TX3 2, w ∈ wsX3_narrowed := fun w h => List.mem_cons_of_mem _ (List.mem_append_right _ h)
  have w_0 : Cond.fieldLink RX3 9 "LightMan$Items" "sort" "I" ∈ wsX3_narrowed := List.mem_of_getElem? (i := 1) rfl
  refine lv_aload_n hx hb dX3_narrowed_0 rfl (lv_at hl 0 rfl) ?_
  refine rg hf hk hw hinX3 0 rfl rfl 0 (by decide) w_0 rfl dX3_narrowed_1 ?_
  refine lv_if_ne (tgt := 10) hx hb dX3_narrowed_4 (by decide) (fun c_1 => ?_) (fun c_1 => ?_)
  · refine lv_aload_n hx hb dX3_narrowed_10 rfl (lv_at hl 0 rfl) ?_
    refine rg hf hk hw hinX3 0 rfl rfl 0 (by decide) w_0 rfl dX3_narrowed_11 ?_
    refine lv_iconst (v := 1) hx hb dX3_narrowed_14 (by decide) ?_
    refine lv_icmp_ne (tgt := 23) hx hb dX3_narrowed_15 (by decide) (fun c_2 => ?_) (fun c_2 => ?_)
    · refine lv_iload_n hx hb dX3_narrowed_23 rfl (lv_at hl 1 rfl) ?_
      exact re_i hf hr hlk hw (by simp only [f_X3_narrowed, if_neg c_1, if_neg c_2]) (rfl) dX3_narrowed_24
    · refine lv_iload_n hx hb dX3_narrowed_18 rfl (lv_at hl 1 rfl) ?_
      refine lv_i2s hx hb dX3_narrowed_19 rfl ?_
      refine lv_goto (tgt := 24) hx hb dX3_narrowed_20 (by decide) ?_
      exact re_i hf hr hlk hw (by simp only [f_X3_narrowed, if_neg c_1, if_pos c_2]) (rfl) dX3_narrowed_24
  · refine lv_iload_n hx hb dX3_narrowed_7 rfl (lv_at hl 1 rfl) ?_
    refine lv_i2b hx hb dX3_narrowed_8 rfl ?_
    exact re_i hf hr hlk hw (by simp only [f_X3_narrowed, if_pos c_1]) (rfl) dX3_narrowed_9
theorem hdS_X10_isNoSheet : yX10_isNoSheet.cls ≠ "java/lang/invoke/MethodHandle" ∧ yX10_isNoSheet.cls ≠ "java/lang/invoke/VarHandle" ∧ (parseMethodDescriptor yX10_isNoSheet.desc).map (fun d => d.parameters.length) = some 1 := by decide +kernel
def f_X10_item_n (sheet : Int32) (sort : Int32) : Int32 := if (f_X10_isOutside sheet 0 3) = 0 then (if (f_X10_isOutside sort 0 3) = 0 then (-11) else (-1)) else (-1)
abbrev rmX10_item_n : Room := { frames := 2, cells := 0, slots := 0, locals := 42 }
set_option maxHeartbeats 4000000 in
set_option maxRecDepth 100000 in
theorem c_X10_item_n (l : Launch) (g : GG) (lh : Nat) (t : Nat) (xt : Nat) (yt : Nat) (ak : Nat) (isk : Int32) (ltp : Nat) (lrw : Nat) (rc : Nat) (lac : Nat) (lsh : Nat) (lhh : Nat) (lhg : Nat) (lhr : Nat) (sheet : Int32) (sort : Int32) (i_ : Int32) (sht : Nat → Option Nat) (hso : sht (ix sheet) = none) : mtR l g yX10_item wsX10_item rmX10_item_n [.ref lh, .int sheet, .int sort, .int i_] [cob lh 10 [.ref ak, .ref t, .ref yt, .ref xt, .int isk, .ref ltp, .ref lrw, .int (nI rc), .ref lac, .ref lsh, .ref lhh, .ref lhg, .ref lhr], cit g lsh 4 sht] (fun rv W => rv = (some (.int (f_X10_item_n sheet sort))) ∧ W = [cob lh 10 [.ref ak, .ref t, .ref yt, .ref xt, .int isk, .ref ltp, .ref lrw, .int (nI rc), .ref lac, .ref lsh, .ref lhh, .ref lhg, .ref lhr], cit g lsh 4 sht]) := by
  refine mtR.of (cc := cX10_item) (nL := 5) (ret := (some .int)) (own := RX10) (by decide +kernel) rfl rfl (Nat.le_of_ble_eq_true rfl) (fun p e s m below meth c hf hr hlk _ hk hst hw ls hl => ?_)
  have hx := hf.1
  have hb := hf.2.1
  have hts := hf.2.2.2.2
  have hl : lv_has ls 5 [(0, .ref lh), (1, .int sheet), (2, .int sort), (3, .int i_)] := hl
  have hinX10 : ∀ w ∈ u_ws RX10 TX10 13, w ∈ wsX10_item := fun w h => List.mem_cons_of_mem _ (List.mem_append_left _ (List.mem_append_right _ h))
  have w_0 : Cond.fieldLink RX10 74 "LightMan" "sheets" "[LLightMan$Items;" ∈ wsX10_item := List.mem_of_getElem? (i := 1) rfl
  refine lv_iload_n hx hb dX10_item_0 rfl (lv_at hl 1 rfl) ?_
  refine mcS hf hk hst hw (c_X10_isNoSheet l g sheet) (va_cwS 1 hts gX10_item_X10_isNoSheet rfl rfl rfl hdS_X10_isNoSheet ⟨Nat.le_of_ble_eq_true rfl, Nat.le_of_ble_eq_true rfl⟩) [] rfl rfl rfl hl.1 rfl (Nat.le_of_ble_eq_true rfl) dX10_item_1 ⟨Nat.zero_le _, Nat.zero_le _⟩ (W' := [cob lh 10 [.ref ak, .ref t, .ref yt, .ref xt, .int isk, .ref ltp, .ref lrw, .int (nI rc), .ref lac, .ref lsh, .ref lhh, .ref lhg, .ref lhr], cit g lsh 4 sht]) rfl (fun H locs hw => ?_)
  refine lv_if_ne (tgt := 16) hx hb dX10_item_4 (by decide) (fun c_1 => ?_) (fun c_1 => ?_)
  · refine lv_iconst (v := (-1)) hx hb dX10_item_16 (by decide) ?_
    exact rE_i hf hr hlk hw ⟨congrArg some (by simp only [f_X10_item_n, if_neg c_1]), rfl⟩ (show ([lh, lsh] : List Nat) = [lh, lsh] from rfl) dX10_item_17
  · have hs := out_n (N := 3) (by decide) c_1
    have hs2 := hs.2
    refine lv_iload_n hx hb dX10_item_7 rfl (lv_at hl 2 rfl) ?_
    refine lv_iconst (v := 0) hx hb dX10_item_8 (by decide) ?_
    refine lv_iconst (v := 3) hx hb dX10_item_9 (by decide) ?_
    refine mcS hf hk hst hw (c_X10_isOutside l g sort 0 3) (va_cwS 3 hts gX10_item_X10_isOutside rfl rfl rfl hdS_X10_isOutside ⟨Nat.le_of_ble_eq_true rfl, Nat.le_of_ble_eq_true rfl⟩) [] rfl rfl rfl hl.1 rfl (Nat.le_of_ble_eq_true rfl) dX10_item_10 ⟨Nat.zero_le _, Nat.zero_le _⟩ (W' := [cob lh 10 [.ref ak, .ref t, .ref yt, .ref xt, .int isk, .ref ltp, .ref lrw, .int (nI rc), .ref lac, .ref lsh, .ref lhh, .ref lhg, .ref lhr], cit g lsh 4 sht]) rfl (fun H locs hw => ?_)
    refine lv_if_eq (tgt := 18) hx hb dX10_item_13 (by decide) (fun c_2 => ?_) (fun c_2 => ?_)
    · refine lv_aload_n hx hb dX10_item_18 rfl (lv_at hl 0 rfl) ?_
      refine rg hf hk hw hinX10 0 rfl rfl 9 (by decide) w_0 rfl dX10_item_19 ?_
      refine lv_iload_n hx hb dX10_item_22 rfl (lv_at hl 1 rfl) ?_
      refine lv_tope (y := nI (ix sheet)) hs.1 ?_
      refine rqj hf hk hw 1 rfl (j := ix sheet) (r := none) (vp_in_nI (by omega) (by omega)) (nI_clamp (by omega)) (hso) dX10_item_23 ?_
      refine lv_astoreN (lv' := [(4, .null), (0, .ref lh), (1, .int sheet), (2, .int sort), (3, .int i_)]) hx hb dX10_item_24 hl (by decide) rfl (fun ls hl => ?_)
      refine lv_aloadN hx hb dX10_item_26 (lv_at hl 0 rfl) ?_
      refine lv_ifnonnullN hx hb dX10_item_28 ?_
      refine lv_bipush (v := (-11)) hx hb dX10_item_31 (by decide) ?_
      exact rE_i hf hr hlk hw ⟨congrArg some (by simp only [f_X10_item_n, if_pos c_1, if_pos c_2]), rfl⟩ (show ([lh, lsh] : List Nat) = [lh, lsh] from rfl) dX10_item_33
    · refine lv_iconst (v := (-1)) hx hb dX10_item_16 (by decide) ?_
      exact rE_i hf hr hlk hw ⟨congrArg some (by simp only [f_X10_item_n, if_pos c_1, if_neg c_2]), rfl⟩ (show ([lh, lsh] : List Nat) = [lh, lsh] from rfl) dX10_item_17
def f_X10_item (sheet : Int32) (sort : Int32) (i_ : Int32) (iso : Int32) (isz : Nat) (ivs : Nat → Int32) : Int32 := if (f_X10_isOutside sheet 0 3) = 0 then (if (f_X10_isOutside sort 0 3) = 0 then (if iso = sort then (if (f_X10_isOutside i_ 0 ((nI isz) - 1)) = 0 then (ivs (ix i_)) else (-12)) else (-13)) else (-1)) else (-1)
abbrev rmX10_item_s : Room := { frames := 2, cells := 0, slots := 0, locals := 42 }
set_option maxHeartbeats 4000000 in
set_option maxRecDepth 100000 in
theorem c_X10_item_s (l : Launch) (g : GG) (lh : Nat) (t : Nat) (xt : Nat) (yt : Nat) (ak : Nat) (isk : Int32) (ltp : Nat) (lrw : Nat) (rc : Nat) (lac : Nat) (lsh : Nat) (lhh : Nat) (lhg : Nat) (lhr : Nat) (sheet : Int32) (sort : Int32) (i_ : Int32) (sht : Nat → Option Nat) (ia : Nat) (iv : Nat) (iso : Int32) (isz : Nat) (ivs : Nat → Int32) (hz40 : isz ≤ 40) (hso : sht (ix sheet) = some ia) : mtR l g yX10_item wsX10_item rmX10_item_s [.ref lh, .int sheet, .int sort, .int i_] [cob lh 10 [.ref ak, .ref t, .ref yt, .ref xt, .int isk, .ref ltp, .ref lrw, .int (nI rc), .ref lac, .ref lsh, .ref lhh, .ref lhg, .ref lhr], cit g lsh 4 sht, cob ia 3 [.int iso, .ref iv], cin g iv isz ivs] (fun rv W => rv = (some (.int (f_X10_item sheet sort i_ iso isz ivs))) ∧ W = [cob lh 10 [.ref ak, .ref t, .ref yt, .ref xt, .int isk, .ref ltp, .ref lrw, .int (nI rc), .ref lac, .ref lsh, .ref lhh, .ref lhg, .ref lhr], cit g lsh 4 sht, cob ia 3 [.int iso, .ref iv], cin g iv isz ivs]) := by
  refine mtR.of (cc := cX10_item) (nL := 5) (ret := (some .int)) (own := RX10) (by decide +kernel) rfl rfl (Nat.le_of_ble_eq_true rfl) (fun p e s m below meth c hf hr hlk _ hk hst hw ls hl => ?_)
  have hx := hf.1
  have hb := hf.2.1
  have hts := hf.2.2.2.2
  have hl : lv_has ls 5 [(0, .ref lh), (1, .int sheet), (2, .int sort), (3, .int i_)] := hl
  have hinX10 : ∀ w ∈ u_ws RX10 TX10 13, w ∈ wsX10_item := fun w h => List.mem_cons_of_mem _ (List.mem_append_left _ (List.mem_append_right _ h))
  have w_0 : Cond.fieldLink RX10 74 "LightMan" "sheets" "[LLightMan$Items;" ∈ wsX10_item := List.mem_of_getElem? (i := 1) rfl
  have hinX3 : ∀ w ∈ u_ws RX3 TX3 2, w ∈ wsX10_item := fun w h => List.mem_cons_of_mem _ (List.mem_append_right _ h)
  have w_1 : Cond.fieldLink RX10 260 "LightMan$Items" "sort" "I" ∈ wsX10_item := List.mem_of_getElem? (i := 2) rfl
  have w_2 : Cond.fieldLink RX10 228 "LightMan$Items" "values" "[I" ∈ wsX10_item := List.mem_of_getElem? (i := 3) rfl
  refine lv_iload_n hx hb dX10_item_0 rfl (lv_at hl 1 rfl) ?_
  refine mcS hf hk hst hw (c_X10_isNoSheet l g sheet) (va_cwS 1 hts gX10_item_X10_isNoSheet rfl rfl rfl hdS_X10_isNoSheet ⟨Nat.le_of_ble_eq_true rfl, Nat.le_of_ble_eq_true rfl⟩) [] rfl rfl rfl hl.1 rfl (Nat.le_of_ble_eq_true rfl) dX10_item_1 ⟨Nat.zero_le _, Nat.zero_le _⟩ (W' := [cob lh 10 [.ref ak, .ref t, .ref yt, .ref xt, .int isk, .ref ltp, .ref lrw, .int (nI rc), .ref lac, .ref lsh, .ref lhh, .ref lhg, .ref lhr], cit g lsh 4 sht, cob ia 3 [.int iso, .ref iv], cin g iv isz ivs]) rfl (fun H locs hw => ?_)
  refine lv_if_ne (tgt := 16) hx hb dX10_item_4 (by decide) (fun c_1 => ?_) (fun c_1 => ?_)
  · refine lv_iconst (v := (-1)) hx hb dX10_item_16 (by decide) ?_
    exact rE_i hf hr hlk hw ⟨congrArg some (by simp only [f_X10_item, if_neg c_1]), rfl⟩ (show ([lh, lsh, ia, iv] : List Nat) = [lh, lsh, ia, iv] from rfl) dX10_item_17
  · have hs := out_n (N := 3) (by decide) c_1
    have hs2 := hs.2
    refine lv_iload_n hx hb dX10_item_7 rfl (lv_at hl 2 rfl) ?_
    refine lv_iconst (v := 0) hx hb dX10_item_8 (by decide) ?_
    refine lv_iconst (v := 3) hx hb dX10_item_9 (by decide) ?_
    refine mcS hf hk hst hw (c_X10_isOutside l g sort 0 3) (va_cwS 3 hts gX10_item_X10_isOutside rfl rfl rfl hdS_X10_isOutside ⟨Nat.le_of_ble_eq_true rfl, Nat.le_of_ble_eq_true rfl⟩) [] rfl rfl rfl hl.1 rfl (Nat.le_of_ble_eq_true rfl) dX10_item_10 ⟨Nat.zero_le _, Nat.zero_le _⟩ (W' := [cob lh 10 [.ref ak, .ref t, .ref yt, .ref xt, .int isk, .ref ltp, .ref lrw, .int (nI rc), .ref lac, .ref lsh, .ref lhh, .ref lhg, .ref lhr], cit g lsh 4 sht, cob ia 3 [.int iso, .ref iv], cin g iv isz ivs]) rfl (fun H locs hw => ?_)
    refine lv_if_eq (tgt := 18) hx hb dX10_item_13 (by decide) (fun c_2 => ?_) (fun c_2 => ?_)
    · refine lv_aload_n hx hb dX10_item_18 rfl (lv_at hl 0 rfl) ?_
      refine rg hf hk hw hinX10 0 rfl rfl 9 (by decide) w_0 rfl dX10_item_19 ?_
      refine lv_iload_n hx hb dX10_item_22 rfl (lv_at hl 1 rfl) ?_
      refine lv_tope (y := nI (ix sheet)) hs.1 ?_
      refine rqj hf hk hw 1 rfl (j := ix sheet) (r := some ia) (vp_in_nI (by omega) (by omega)) (nI_clamp (by omega)) (hso) dX10_item_23 ?_
      refine lv_astore (lv' := [(4, .ref ia), (0, .ref lh), (1, .int sheet), (2, .int sort), (3, .int i_)]) hx hb dX10_item_24 hl (by decide) rfl (fun ls hl => ?_)
      refine lv_aload hx hb dX10_item_26 (lv_at hl 0 rfl) ?_
      refine lv_ifnonnull (tgt := 34) hx hb dX10_item_28 (by decide) ?_
      refine lv_aload hx hb dX10_item_34 (lv_at hl 0 rfl) ?_
      refine rg hf hk hw hinX3 2 rfl rfl 0 (by decide) w_1 rfl dX10_item_36 ?_
      refine lv_iload_n hx hb dX10_item_39 rfl (lv_at hl 3 rfl) ?_
      refine lv_icmp_eq (tgt := 46) hx hb dX10_item_40 (by decide) (fun c_3 => ?_) (fun c_3 => ?_)
      · refine lv_iload_n hx hb dX10_item_46 rfl (lv_at hl 4 rfl) ?_
        refine lv_iconst (v := 0) hx hb dX10_item_47 (by decide) ?_
        refine lv_aload hx hb dX10_item_48 (lv_at hl 0 rfl) ?_
        refine rg hf hk hw hinX3 2 rfl rfl 1 (by decide) w_2 rfl dX10_item_50 ?_
        refine ral hf hk hw 3 rfl (v := nI isz) rfl dX10_item_53 ?_
        refine lv_iconst (v := 1) hx hb dX10_item_54 (by decide) ?_
        refine lv_isub hx hb dX10_item_55 ?_
        refine mcS hf hk hst hw (c_X10_isOutside l g i_ 0 ((nI isz) - 1)) (va_cwS 3 hts gX10_item_X10_isOutside rfl rfl rfl hdS_X10_isOutside ⟨Nat.le_of_ble_eq_true rfl, Nat.le_of_ble_eq_true rfl⟩) [] rfl rfl rfl hl.1 rfl (Nat.le_of_ble_eq_true rfl) dX10_item_56 ⟨Nat.zero_le _, Nat.zero_le _⟩ (W' := [cob lh 10 [.ref ak, .ref t, .ref yt, .ref xt, .int isk, .ref ltp, .ref lrw, .int (nI rc), .ref lac, .ref lsh, .ref lhh, .ref lhg, .ref lhr], cit g lsh 4 sht, cob ia 3 [.int iso, .ref iv], cin g iv isz ivs]) rfl (fun H locs hw => ?_)
        refine lv_if_eq (tgt := 67) hx hb dX10_item_59 (by decide) (fun c_4 => ?_) (fun c_4 => ?_)
        · have hi_ := out_m1 hz40 c_4
          have hi2 := hi_.2
          refine lv_aload hx hb dX10_item_67 (lv_at hl 0 rfl) ?_
          refine rg hf hk hw hinX3 2 rfl rfl 1 (by decide) w_2 rfl dX10_item_69 ?_
          refine lv_iload_n hx hb dX10_item_72 rfl (lv_at hl 4 rfl) ?_
          refine lv_tope (y := nI (ix i_)) hi_.1 ?_
          refine rij hf hk hw 3 rfl (j := ix i_) (vp_in_nI (by omega) (by omega)) (nI_clamp (by omega)) dX10_item_73 ?_
          exact rE_i hf hr hlk hw ⟨congrArg some (by simp only [f_X10_item, if_pos c_1, if_pos c_2, if_pos c_3, if_pos c_4]), rfl⟩ (show ([lh, lsh, ia, iv] : List Nat) = [lh, lsh, ia, iv] from rfl) dX10_item_74
        · refine lv_bipush (v := (-12)) hx hb dX10_item_62 (by decide) ?_
          refine lv_goto (tgt := 74) hx hb dX10_item_64 (by decide) ?_
          exact rE_i hf hr hlk hw ⟨congrArg some (by simp only [f_X10_item, if_pos c_1, if_pos c_2, if_pos c_3, if_neg c_4]), rfl⟩ (show ([lh, lsh, ia, iv] : List Nat) = [lh, lsh, ia, iv] from rfl) dX10_item_74
      · refine lv_bipush (v := (-13)) hx hb dX10_item_43 (by decide) ?_
        exact rE_i hf hr hlk hw ⟨congrArg some (by simp only [f_X10_item, if_pos c_1, if_pos c_2, if_neg c_3]), rfl⟩ (show ([lh, lsh, ia, iv] : List Nat) = [lh, lsh, ia, iv] from rfl) dX10_item_45
    · refine lv_iconst (v := (-1)) hx hb dX10_item_16 (by decide) ?_
      exact rE_i hf hr hlk hw ⟨congrArg some (by simp only [f_X10_item, if_pos c_1, if_neg c_2]), rfl⟩ (show ([lh, lsh, ia, iv] : List Nat) = [lh, lsh, ia, iv] from rfl) dX10_item_17
def f_X10_put_n (sheet : Int32) : Int32 := if (f_X10_isOutside sheet 0 3) = 0 then (-11) else (-1)
abbrev rmX10_put_n : Room := { frames := 2, cells := 0, slots := 0, locals := 42 }
set_option maxHeartbeats 4000000 in
set_option maxRecDepth 100000 in
theorem c_X10_put_n (l : Launch) (g : GG) (lh : Nat) (t : Nat) (xt : Nat) (yt : Nat) (ak : Nat) (isk : Int32) (ltp : Nat) (lrw : Nat) (rc : Nat) (lac : Nat) (lsh : Nat) (lhh : Nat) (lhg : Nat) (lhr : Nat) (sheet : Int32) (i_ : Int32) (v : Int32) (sht : Nat → Option Nat) (hso : sht (ix sheet) = none) : mtR l g yX10_put wsX10_put rmX10_put_n [.ref lh, .int sheet, .int i_, .int v] [cob lh 10 [.ref ak, .ref t, .ref yt, .ref xt, .int isk, .ref ltp, .ref lrw, .int (nI rc), .ref lac, .ref lsh, .ref lhh, .ref lhg, .ref lhr], cit g lsh 4 sht] (fun rv W => rv = (some (.int (f_X10_put_n sheet))) ∧ W = [cob lh 10 [.ref ak, .ref t, .ref yt, .ref xt, .int isk, .ref ltp, .ref lrw, .int (nI rc), .ref lac, .ref lsh, .ref lhh, .ref lhg, .ref lhr], cit g lsh 4 sht]) := by
  refine mtR.of (cc := cX10_put) (nL := 5) (ret := (some .int)) (own := RX10) (by decide +kernel) rfl rfl (Nat.le_of_ble_eq_true rfl) (fun p e s m below meth c hf hr hlk _ hk hst hw ls hl => ?_)
  have hx := hf.1
  have hb := hf.2.1
  have hts := hf.2.2.2.2
  have hl : lv_has ls 5 [(0, .ref lh), (1, .int sheet), (2, .int i_), (3, .int v)] := hl
  have hinX10 : ∀ w ∈ u_ws RX10 TX10 13, w ∈ wsX10_put := fun w h => List.mem_cons_of_mem _ (List.mem_append_left _ (List.mem_append_right _ h))
  have w_0 : Cond.fieldLink RX10 74 "LightMan" "sheets" "[LLightMan$Items;" ∈ wsX10_put := List.mem_of_getElem? (i := 1) rfl
  refine lv_iload_n hx hb dX10_put_0 rfl (lv_at hl 1 rfl) ?_
  refine mcS hf hk hst hw (c_X10_isNoSheet l g sheet) (va_cwS 1 hts gX10_put_X10_isNoSheet rfl rfl rfl hdS_X10_isNoSheet ⟨Nat.le_of_ble_eq_true rfl, Nat.le_of_ble_eq_true rfl⟩) [] rfl rfl rfl hl.1 rfl (Nat.le_of_ble_eq_true rfl) dX10_put_1 ⟨Nat.zero_le _, Nat.zero_le _⟩ (W' := [cob lh 10 [.ref ak, .ref t, .ref yt, .ref xt, .int isk, .ref ltp, .ref lrw, .int (nI rc), .ref lac, .ref lsh, .ref lhh, .ref lhg, .ref lhr], cit g lsh 4 sht]) rfl (fun H locs hw => ?_)
  refine lv_if_eq (tgt := 9) hx hb dX10_put_4 (by decide) (fun c_1 => ?_) (fun c_1 => ?_)
  · have hs := out_n (N := 3) (by decide) c_1
    have hs2 := hs.2
    refine lv_aload_n hx hb dX10_put_9 rfl (lv_at hl 0 rfl) ?_
    refine rg hf hk hw hinX10 0 rfl rfl 9 (by decide) w_0 rfl dX10_put_10 ?_
    refine lv_iload_n hx hb dX10_put_13 rfl (lv_at hl 1 rfl) ?_
    refine lv_tope (y := nI (ix sheet)) hs.1 ?_
    refine rqj hf hk hw 1 rfl (j := ix sheet) (r := none) (vp_in_nI (by omega) (by omega)) (nI_clamp (by omega)) (hso) dX10_put_14 ?_
    refine lv_astoreN (lv' := [(4, .null), (0, .ref lh), (1, .int sheet), (2, .int i_), (3, .int v)]) hx hb dX10_put_15 hl (by decide) rfl (fun ls hl => ?_)
    refine lv_aloadN hx hb dX10_put_17 (lv_at hl 0 rfl) ?_
    refine lv_ifnonnullN hx hb dX10_put_19 ?_
    refine lv_bipush (v := (-11)) hx hb dX10_put_22 (by decide) ?_
    exact rE_i hf hr hlk hw ⟨congrArg some (by simp only [f_X10_put_n, if_pos c_1]), rfl⟩ (show ([lh, lsh] : List Nat) = [lh, lsh] from rfl) dX10_put_24
  · refine lv_iconst (v := (-1)) hx hb dX10_put_7 (by decide) ?_
    exact rE_i hf hr hlk hw ⟨congrArg some (by simp only [f_X10_put_n, if_neg c_1]), rfl⟩ (show ([lh, lsh] : List Nat) = [lh, lsh] from rfl) dX10_put_8
theorem hdV_X3_narrowed : yX3_narrowed.cls = RX3 ∧ yX3_narrowed.cls ≠ "java/lang/invoke/MethodHandle" ∧ yX3_narrowed.cls ≠ "java/lang/invoke/VarHandle" ∧ (parseMethodDescriptor yX3_narrowed.desc).map (fun d => d.parameters.length) = some 1 := by decide +kernel
def f_X10_put (sheet : Int32) (i_ : Int32) (isz : Nat) : Int32 := if (f_X10_isOutside sheet 0 3) = 0 then (if (f_X10_isOutside i_ 0 ((nI isz) - 1)) = 0 then 1 else (-12)) else (-1)
def f_X10_put_w1 (sheet : Int32) (i_ : Int32) (v : Int32) (iso : Int32) (isz : Nat) (ivs : Nat → Int32) : Nat → Int32 := if (f_X10_isOutside sheet 0 3) = 0 then (if (f_X10_isOutside i_ 0 ((nI isz) - 1)) = 0 then (upd ivs (ix i_) (f_X3_narrowed iso v)) else ivs) else ivs
abbrev rmX10_put_s : Room := { frames := 2, cells := 0, slots := 0, locals := 42 }
set_option maxHeartbeats 4000000 in
set_option maxRecDepth 100000 in
theorem c_X10_put_s (l : Launch) (g : GG) (lh : Nat) (t : Nat) (xt : Nat) (yt : Nat) (ak : Nat) (isk : Int32) (ltp : Nat) (lrw : Nat) (rc : Nat) (lac : Nat) (lsh : Nat) (lhh : Nat) (lhg : Nat) (lhr : Nat) (sheet : Int32) (i_ : Int32) (v : Int32) (sht : Nat → Option Nat) (ia : Nat) (iv : Nat) (iso : Int32) (isz : Nat) (ivs : Nat → Int32) (hz40 : isz ≤ 40) (hso : sht (ix sheet) = some ia) : mtR l g yX10_put wsX10_put rmX10_put_s [.ref lh, .int sheet, .int i_, .int v] [cob lh 10 [.ref ak, .ref t, .ref yt, .ref xt, .int isk, .ref ltp, .ref lrw, .int (nI rc), .ref lac, .ref lsh, .ref lhh, .ref lhg, .ref lhr], cit g lsh 4 sht, cob ia 3 [.int iso, .ref iv], cin g iv isz ivs] (fun rv W => rv = (some (.int (f_X10_put sheet i_ isz))) ∧ W = [cob lh 10 [.ref ak, .ref t, .ref yt, .ref xt, .int isk, .ref ltp, .ref lrw, .int (nI rc), .ref lac, .ref lsh, .ref lhh, .ref lhg, .ref lhr], cit g lsh 4 sht, cob ia 3 [.int iso, .ref iv], cin g iv isz (f_X10_put_w1 sheet i_ v iso isz ivs)]) := by
  refine mtR.of (cc := cX10_put) (nL := 5) (ret := (some .int)) (own := RX10) (by decide +kernel) rfl rfl (Nat.le_of_ble_eq_true rfl) (fun p e s m below meth c hf hr hlk _ hk hst hw ls hl => ?_)
  have hx := hf.1
  have hb := hf.2.1
  have hts := hf.2.2.2.2
  have hl : lv_has ls 5 [(0, .ref lh), (1, .int sheet), (2, .int i_), (3, .int v)] := hl
  have hinX10 : ∀ w ∈ u_ws RX10 TX10 13, w ∈ wsX10_put := fun w h => List.mem_cons_of_mem _ (List.mem_append_left _ (List.mem_append_right _ h))
  have w_0 : Cond.fieldLink RX10 74 "LightMan" "sheets" "[LLightMan$Items;" ∈ wsX10_put := List.mem_of_getElem? (i := 1) rfl
  have hinX3 : ∀ w ∈ u_ws RX3 TX3 2, w ∈ wsX10_put := fun w h => List.mem_cons_of_mem _ (List.mem_append_right _ h)
  have w_1 : Cond.fieldLink RX10 228 "LightMan$Items" "values" "[I" ∈ wsX10_put := List.mem_of_getElem? (i := 2) rfl
  refine lv_iload_n hx hb dX10_put_0 rfl (lv_at hl 1 rfl) ?_
  refine mcS hf hk hst hw (c_X10_isNoSheet l g sheet) (va_cwS 1 hts gX10_put_X10_isNoSheet rfl rfl rfl hdS_X10_isNoSheet ⟨Nat.le_of_ble_eq_true rfl, Nat.le_of_ble_eq_true rfl⟩) [] rfl rfl rfl hl.1 rfl (Nat.le_of_ble_eq_true rfl) dX10_put_1 ⟨Nat.zero_le _, Nat.zero_le _⟩ (W' := [cob lh 10 [.ref ak, .ref t, .ref yt, .ref xt, .int isk, .ref ltp, .ref lrw, .int (nI rc), .ref lac, .ref lsh, .ref lhh, .ref lhg, .ref lhr], cit g lsh 4 sht, cob ia 3 [.int iso, .ref iv], cin g iv isz ivs]) rfl (fun H locs hw => ?_)
  refine lv_if_eq (tgt := 9) hx hb dX10_put_4 (by decide) (fun c_1 => ?_) (fun c_1 => ?_)
  · have hs := out_n (N := 3) (by decide) c_1
    have hs2 := hs.2
    refine lv_aload_n hx hb dX10_put_9 rfl (lv_at hl 0 rfl) ?_
    refine rg hf hk hw hinX10 0 rfl rfl 9 (by decide) w_0 rfl dX10_put_10 ?_
    refine lv_iload_n hx hb dX10_put_13 rfl (lv_at hl 1 rfl) ?_
    refine lv_tope (y := nI (ix sheet)) hs.1 ?_
    refine rqj hf hk hw 1 rfl (j := ix sheet) (r := some ia) (vp_in_nI (by omega) (by omega)) (nI_clamp (by omega)) (hso) dX10_put_14 ?_
    refine lv_astore (lv' := [(4, .ref ia), (0, .ref lh), (1, .int sheet), (2, .int i_), (3, .int v)]) hx hb dX10_put_15 hl (by decide) rfl (fun ls hl => ?_)
    refine lv_aload hx hb dX10_put_17 (lv_at hl 0 rfl) ?_
    refine lv_ifnonnull (tgt := 25) hx hb dX10_put_19 (by decide) ?_
    refine lv_iload_n hx hb dX10_put_25 rfl (lv_at hl 3 rfl) ?_
    refine lv_iconst (v := 0) hx hb dX10_put_26 (by decide) ?_
    refine lv_aload hx hb dX10_put_27 (lv_at hl 0 rfl) ?_
    refine rg hf hk hw hinX3 2 rfl rfl 1 (by decide) w_1 rfl dX10_put_29 ?_
    refine ral hf hk hw 3 rfl (v := nI isz) rfl dX10_put_32 ?_
    refine lv_iconst (v := 1) hx hb dX10_put_33 (by decide) ?_
    refine lv_isub hx hb dX10_put_34 ?_
    refine mcS hf hk hst hw (c_X10_isOutside l g i_ 0 ((nI isz) - 1)) (va_cwS 3 hts gX10_put_X10_isOutside rfl rfl rfl hdS_X10_isOutside ⟨Nat.le_of_ble_eq_true rfl, Nat.le_of_ble_eq_true rfl⟩) [] rfl rfl rfl hl.1 rfl (Nat.le_of_ble_eq_true rfl) dX10_put_35 ⟨Nat.zero_le _, Nat.zero_le _⟩ (W' := [cob lh 10 [.ref ak, .ref t, .ref yt, .ref xt, .int isk, .ref ltp, .ref lrw, .int (nI rc), .ref lac, .ref lsh, .ref lhh, .ref lhg, .ref lhr], cit g lsh 4 sht, cob ia 3 [.int iso, .ref iv], cin g iv isz ivs]) rfl (fun H locs hw => ?_)
    refine lv_if_eq (tgt := 44) hx hb dX10_put_38 (by decide) (fun c_2 => ?_) (fun c_2 => ?_)
    · have hi_ := out_m1 hz40 c_2
      have hi2 := hi_.2
      refine lv_aload hx hb dX10_put_44 (lv_at hl 0 rfl) ?_
      refine rg hf hk hw hinX3 2 rfl rfl 1 (by decide) w_1 rfl dX10_put_46 ?_
      refine lv_iload_n hx hb dX10_put_49 rfl (lv_at hl 3 rfl) ?_
      refine lv_tope (y := nI (ix i_)) hi_.1 ?_
      refine lv_aload hx hb dX10_put_50 (lv_at hl 0 rfl) ?_
      refine lv_iload_n hx hb dX10_put_52 rfl (lv_at hl 4 rfl) ?_
      refine mcV hf hk hst hw (c_X3_narrowed l g ia iv iso v) (cwV 1 hts gX10_put_X3_narrowed rfl rfl rfl hdV_X3_narrowed ⟨Nat.le_of_ble_eq_true rfl, Nat.le_of_ble_eq_true rfl⟩) [2] rfl rfl 2 rfl rfl rfl hl.1 rfl (Nat.le_of_ble_eq_true rfl) dX10_put_53 ⟨Nat.zero_le _, Nat.zero_le _⟩ (W' := [cob lh 10 [.ref ak, .ref t, .ref yt, .ref xt, .int isk, .ref ltp, .ref lrw, .int (nI rc), .ref lac, .ref lsh, .ref lhh, .ref lhg, .ref lhr], cit g lsh 4 sht, cob ia 3 [.int iso, .ref iv], cin g iv isz ivs]) rfl (fun H locs hw => ?_)
      refine rsj hf hk hw 3 rfl (j := ix i_) (vp_in_nI (by omega) (by omega)) (nI_clamp (by omega)) dX10_put_56 (W' := [cob lh 10 [.ref ak, .ref t, .ref yt, .ref xt, .int isk, .ref ltp, .ref lrw, .int (nI rc), .ref lac, .ref lsh, .ref lhh, .ref lhg, .ref lhr], cit g lsh 4 sht, cob ia 3 [.int iso, .ref iv], cin g iv isz (upd ivs (ix i_) (f_X3_narrowed iso v))]) rfl (fun H locs hw => ?_)
      refine lv_iconst (v := 1) hx hb dX10_put_57 (by decide) ?_
      exact rE_i hf hr hlk hw ⟨congrArg some (by simp only [f_X10_put, if_pos c_1, if_pos c_2]), by simp only [f_X10_put_w1, if_pos c_1, if_pos c_2]⟩ (show ([lh, lsh, ia, iv] : List Nat) = [lh, lsh, ia, iv] from rfl) dX10_put_58
    · refine lv_bipush (v := (-12)) hx hb dX10_put_41 (by decide) ?_
      exact rE_i hf hr hlk hw ⟨congrArg some (by simp only [f_X10_put, if_pos c_1, if_neg c_2]), by simp only [f_X10_put_w1, if_pos c_1, if_neg c_2]⟩ (show ([lh, lsh, ia, iv] : List Nat) = [lh, lsh, ia, iv] from rfl) dX10_put_43
  · refine lv_iconst (v := (-1)) hx hb dX10_put_7 (by decide) ?_
    exact rE_i hf hr hlk hw ⟨congrArg some (by simp only [f_X10_put, if_neg c_1]), by simp only [f_X10_put_w1, if_neg c_1]⟩ (show ([lh, lsh, ia, iv] : List Nat) = [lh, lsh, ia, iv] from rfl) dX10_put_8
def f_X10_taken_n (kinds : Nat → Int32) (cnt : Nat) (shelf : Int32) (as_ : Int32) (shh : Nat → Int32) (shg : Nat → Int32) : Int32 := if (f_X10_isOutside as_ 0 5) = 0 then (if (f_X10_isOutside shelf 0 3) = 0 then (if (f_X10_holdsGoer cnt shh shg (ix shelf)) = 0 then (-11) else (if (((tq_taken (ix (kinds (ix (shg (ix shelf)))))) >>> (as_ &&& 31)) &&& 1) = 1 then (nI (ix (shg (ix shelf)))) else (-13))) else (-1)) else (if (f_X10_isOutside shelf 0 3) = 0 then (if (f_X10_isOutside as_ 10 13) = 0 then (if (f_X10_holdsGoer cnt shh shg (ix shelf)) = 0 then (-11) else (-13)) else (-1)) else (-1))
abbrev rmX10_taken_n : Room := { frames := 2, cells := 0, slots := 0, locals := 42 }
set_option maxHeartbeats 4000000 in
set_option maxRecDepth 100000 in
theorem c_X10_taken_n (l : Launch) (g : GG) (lh : Nat) (t : Nat) (tl : Nat) (tf : Nat) (ta : Nat) (tk : Nat) (tg : Nat) (tp : Nat) (tm : Nat) (kinds : Nat → Int32) (cnt : Nat) (stp : Nat) (z : Int32) (xt : Nat) (yt : Nat) (ak : Nat) (isk : Int32) (ltp : Nat) (lrw : Nat) (rc : Nat) (lac : Nat) (lsh : Nat) (lhh : Nat) (lhg : Nat) (lhr : Nat) (shelf : Int32) (as_ : Int32) (shh : Nat → Int32) (shg : Nat → Int32) (shr : Nat → Option Nat) (hc8 : cnt ≤ 8) (hkd : ∀ j, j < cnt → isK (kinds j)) (hso : shr (ix shelf) = none) : mtR l g yX10_taken wsX10_taken rmX10_taken_n [.ref lh, .int shelf, .int as_] [cob lh 10 [.ref ak, .ref t, .ref yt, .ref xt, .int isk, .ref ltp, .ref lrw, .int (nI rc), .ref lac, .ref lsh, .ref lhh, .ref lhg, .ref lhr], cob t 8 [.ref ak, .ref tl, .ref tf, .ref ta, .ref tk, .ref tg, .ref tp, .ref tm, .int (nI cnt), .int (nI stp), .int z], cin g tk 8 kinds, cin g lhh 4 shh, cin g lhg 4 shg, cit g lhr 4 shr] (fun rv W => rv = (some (.int (f_X10_taken_n kinds cnt shelf as_ shh shg))) ∧ W = [cob lh 10 [.ref ak, .ref t, .ref yt, .ref xt, .int isk, .ref ltp, .ref lrw, .int (nI rc), .ref lac, .ref lsh, .ref lhh, .ref lhg, .ref lhr], cob t 8 [.ref ak, .ref tl, .ref tf, .ref ta, .ref tk, .ref tg, .ref tp, .ref tm, .int (nI cnt), .int (nI stp), .int z], cin g tk 8 kinds, cin g lhh 4 shh, cin g lhg 4 shg, cit g lhr 4 shr]) := by
  refine mtR.of (cc := cX10_taken) (nL := 5) (ret := (some .int)) (own := RX10) (by decide +kernel) rfl rfl (Nat.le_of_ble_eq_true rfl) (fun p e s m below meth c hf hr hlk _ hk hst hw ls hl => ?_)
  have hx := hf.1
  have hb := hf.2.1
  have hts := hf.2.2.2.2
  have hl : lv_has ls 5 [(0, .ref lh), (1, .int shelf), (2, .int as_)] := hl
  have hinX10 : ∀ w ∈ u_ws RX10 TX10 13, w ∈ wsX10_taken := fun w h => List.mem_cons_of_mem _ (List.mem_append_left _ (List.mem_append_left _ (List.mem_append_right _ h)))
  have w_0 : Cond.fieldLink RX10 84 "LightMan" "shelfRows" "[LLightMan$Items;" ∈ wsX10_taken := List.mem_of_getElem? (i := 5) rfl
  have w_1 : Cond.fieldLink RX10 81 "LightMan" "shelfGoers" "[I" ∈ wsX10_taken := List.mem_of_getElem? (i := 1) rfl
  have w_2 : Cond.fieldLink RX10 278 "LightMan" "TAKEN_FOR" "[I" ∈ wsX10_taken := List.mem_of_getElem? (i := 2) rfl
  have w_3 : Cond.fieldLink RX10 36 "LightMan" "now" "LLightMan$Tunnel;" ∈ wsX10_taken := List.mem_of_getElem? (i := 3) rfl
  have hinX8 : ∀ w ∈ u_ws RX8 TX8 11, w ∈ wsX10_taken := fun w h => List.mem_cons_of_mem _ (List.mem_append_left _ (List.mem_append_right _ h))
  have w_4 : Cond.fieldLink RX10 138 "LightMan$Tunnel" "kinds" "[I" ∈ wsX10_taken := List.mem_of_getElem? (i := 4) rfl
  refine lv_iload_n hx hb dX10_taken_0 rfl (lv_at hl 2 rfl) ?_
  refine mcS hf hk hst hw (c_X10_isNoKind l g as_) (va_cwS 1 hts gX10_taken_X10_isNoKind rfl rfl rfl hdS_X10_isNoKind ⟨Nat.le_of_ble_eq_true rfl, Nat.le_of_ble_eq_true rfl⟩) [] rfl rfl rfl hl.1 rfl (Nat.le_of_ble_eq_true rfl) dX10_taken_1 ⟨Nat.zero_le _, Nat.zero_le _⟩ (W' := [cob lh 10 [.ref ak, .ref t, .ref yt, .ref xt, .int isk, .ref ltp, .ref lrw, .int (nI rc), .ref lac, .ref lsh, .ref lhh, .ref lhg, .ref lhr], cob t 8 [.ref ak, .ref tl, .ref tf, .ref ta, .ref tk, .ref tg, .ref tp, .ref tm, .int (nI cnt), .int (nI stp), .int z], cin g tk 8 kinds, cin g lhh 4 shh, cin g lhg 4 shg, cit g lhr 4 shr]) rfl (fun H locs hw => ?_)
  refine lv_if_ne (tgt := 11) hx hb dX10_taken_4 (by decide) (fun c_1 => ?_) (fun c_1 => ?_)
  · refine lv_iconst (v := 0) hx hb dX10_taken_11 (by decide) ?_
    refine lv_istore_n (lv' := [(3, .int 0), (0, .ref lh), (1, .int shelf), (2, .int as_)]) hx hb dX10_taken_12 rfl hl (by decide) rfl (fun ls hl => ?_)
    refine lv_iload_n hx hb dX10_taken_13 rfl (lv_at hl 2 rfl) ?_
    refine mcS hf hk hst hw (c_X10_isNoShelf l g shelf) (va_cwS 1 hts gX10_taken_X10_isNoShelf rfl rfl rfl hdS_X10_isNoShelf ⟨Nat.le_of_ble_eq_true rfl, Nat.le_of_ble_eq_true rfl⟩) [] rfl rfl rfl hl.1 rfl (Nat.le_of_ble_eq_true rfl) dX10_taken_14 ⟨Nat.zero_le _, Nat.zero_le _⟩ (W' := [cob lh 10 [.ref ak, .ref t, .ref yt, .ref xt, .int isk, .ref ltp, .ref lrw, .int (nI rc), .ref lac, .ref lsh, .ref lhh, .ref lhg, .ref lhr], cob t 8 [.ref ak, .ref tl, .ref tf, .ref ta, .ref tk, .ref tg, .ref tp, .ref tm, .int (nI cnt), .int (nI stp), .int z], cin g tk 8 kinds, cin g lhh 4 shh, cin g lhg 4 shg, cit g lhr 4 shr]) rfl (fun H locs hw => ?_)
    refine lv_if_ne (tgt := 35) hx hb dX10_taken_17 (by decide) (fun c_2 => ?_) (fun c_2 => ?_)
    · refine lv_iconst (v := (-1)) hx hb dX10_taken_35 (by decide) ?_
      exact rE_i hf hr hlk hw ⟨congrArg some (by simp only [f_X10_taken_n, if_neg c_1, if_neg c_2]), rfl⟩ (show ([lh, t, tk, lhh, lhg, lhr] : List Nat) = [lh, t, tk, lhh, lhg, lhr] from rfl) dX10_taken_36
    · have hs := out_n (N := 3) (by decide) c_2
      have hs2 := hs.2
      refine lv_iload_n hx hb dX10_taken_20 rfl (lv_at hl 0 rfl) ?_
      refine lv_if_ne (tgt := 37) hx hb dX10_taken_21 (by decide) (fun q => absurd (by decide) q) (fun _ => ?_)
      refine lv_iload_n hx hb dX10_taken_24 rfl (lv_at hl 3 rfl) ?_
      refine lv_bipush (v := 10) hx hb dX10_taken_25 (by decide) ?_
      refine lv_bipush (v := 13) hx hb dX10_taken_27 (by decide) ?_
      refine mcS hf hk hst hw (c_X10_isOutside l g as_ 10 13) (va_cwS 3 hts gX10_taken_X10_isOutside rfl rfl rfl hdS_X10_isOutside ⟨Nat.le_of_ble_eq_true rfl, Nat.le_of_ble_eq_true rfl⟩) [] rfl rfl rfl hl.1 rfl (Nat.le_of_ble_eq_true rfl) dX10_taken_29 ⟨Nat.zero_le _, Nat.zero_le _⟩ (W' := [cob lh 10 [.ref ak, .ref t, .ref yt, .ref xt, .int isk, .ref ltp, .ref lrw, .int (nI rc), .ref lac, .ref lsh, .ref lhh, .ref lhg, .ref lhr], cob t 8 [.ref ak, .ref tl, .ref tf, .ref ta, .ref tk, .ref tg, .ref tp, .ref tm, .int (nI cnt), .int (nI stp), .int z], cin g tk 8 kinds, cin g lhh 4 shh, cin g lhg 4 shg, cit g lhr 4 shr]) rfl (fun H locs hw => ?_)
      refine lv_if_eq (tgt := 37) hx hb dX10_taken_32 (by decide) (fun c_3 => ?_) (fun c_3 => ?_)
      · refine lv_aload_n hx hb dX10_taken_37 rfl (lv_at hl 1 rfl) ?_
        refine lv_iload_n hx hb dX10_taken_38 rfl (lv_at hl 2 rfl) ?_
        refine lv_tope (y := nI (ix shelf)) hs.1 ?_
        refine mcV hf hk hst hw (c_X10_holdsGoer l g lh t tl tf ta tk tg tp tm cnt stp z xt yt ak isk ltp lrw rc lac lsh lhh lhg lhr shh shg (ix shelf) (by omega)) (cwV 1 hts gX10_taken_X10_holdsGoer rfl rfl rfl hdV_X10_holdsGoer ⟨Nat.le_of_ble_eq_true rfl, Nat.le_of_ble_eq_true rfl⟩) [0, 1, 3, 4] rfl rfl 0 rfl rfl rfl hl.1 rfl (Nat.le_of_ble_eq_true rfl) dX10_taken_39 ⟨Nat.zero_le _, Nat.zero_le _⟩ (W' := [cob lh 10 [.ref ak, .ref t, .ref yt, .ref xt, .int isk, .ref ltp, .ref lrw, .int (nI rc), .ref lac, .ref lsh, .ref lhh, .ref lhg, .ref lhr], cob t 8 [.ref ak, .ref tl, .ref tf, .ref ta, .ref tk, .ref tg, .ref tp, .ref tm, .int (nI cnt), .int (nI stp), .int z], cin g tk 8 kinds, cin g lhh 4 shh, cin g lhg 4 shg, cit g lhr 4 shr]) rfl (fun H locs hw => ?_)
        refine lv_if_eq (tgt := 87) hx hb dX10_taken_42 (by decide) (fun c_4 => ?_) (fun c_4 => ?_)
        · refine lv_aload_n hx hb dX10_taken_87 rfl (lv_at hl 1 rfl) ?_
          refine rg hf hk hw hinX10 0 rfl rfl 12 (by decide) w_0 rfl dX10_taken_88 ?_
          refine lv_iload_n hx hb dX10_taken_91 rfl (lv_at hl 2 rfl) ?_
          refine lv_tope (y := nI (ix shelf)) hs.1 ?_
          refine rqj hf hk hw 5 rfl (j := ix shelf) (r := none) (vp_in_nI (by omega) (by omega)) (nI_clamp (by omega)) (hso) dX10_taken_92 ?_
          refine lv_astoreN (lv' := [(4, .null), (3, .int 0), (0, .ref lh), (1, .int shelf), (2, .int as_)]) hx hb dX10_taken_93 hl (by decide) rfl (fun ls hl => ?_)
          refine lv_aloadN hx hb dX10_taken_95 (lv_at hl 0 rfl) ?_
          refine lv_ifnonnullN hx hb dX10_taken_97 ?_
          refine lv_bipush (v := (-11)) hx hb dX10_taken_100 (by decide) ?_
          exact rE_i hf hr hlk hw ⟨congrArg some (by simp only [f_X10_taken_n, if_neg c_1, if_pos c_2, if_pos c_3, if_pos c_4]), rfl⟩ (show ([lh, t, tk, lhh, lhg, lhr] : List Nat) = [lh, t, tk, lhh, lhg, lhr] from rfl) dX10_taken_102
        · have hg := holds_ok hc8 c_4
          have hg2 := hg.2
          refine lv_aload_n hx hb dX10_taken_45 rfl (lv_at hl 1 rfl) ?_
          refine rg hf hk hw hinX10 0 rfl rfl 11 (by decide) w_1 rfl dX10_taken_46 ?_
          refine lv_iload_n hx hb dX10_taken_49 rfl (lv_at hl 2 rfl) ?_
          refine lv_tope (y := nI (ix shelf)) hs.1 ?_
          refine rij hf hk hw 4 rfl (j := ix shelf) (vp_in_nI (by omega) (by omega)) (nI_clamp (by omega)) dX10_taken_50 ?_
          refine lv_istore (lv' := [(4, .int (shg (ix shelf))), (3, .int 0), (0, .ref lh), (1, .int shelf), (2, .int as_)]) hx hb dX10_taken_51 hl (by decide) rfl (fun ls hl => ?_)
          refine lv_iload_n hx hb dX10_taken_53 rfl (lv_at hl 1 rfl) ?_
          refine lv_if_eq (tgt := 84) hx hb dX10_taken_54 (by decide) (fun _ => ?_) (fun q => absurd (by decide) q)
          refine lv_bipush (v := (-13)) hx hb dX10_taken_84 (by decide) ?_
          exact rE_i hf hr hlk hw ⟨congrArg some (by simp only [f_X10_taken_n, if_neg c_1, if_pos c_2, if_pos c_3, if_neg c_4]), rfl⟩ (show ([lh, t, tk, lhh, lhg, lhr] : List Nat) = [lh, t, tk, lhh, lhg, lhr] from rfl) dX10_taken_86
      · refine lv_iconst (v := (-1)) hx hb dX10_taken_35 (by decide) ?_
        exact rE_i hf hr hlk hw ⟨congrArg some (by simp only [f_X10_taken_n, if_neg c_1, if_pos c_2, if_neg c_3]), rfl⟩ (show ([lh, t, tk, lhh, lhg, lhr] : List Nat) = [lh, t, tk, lhh, lhg, lhr] from rfl) dX10_taken_36
  · refine lv_iconst (v := 1) hx hb dX10_taken_7 (by decide) ?_
    refine lv_goto (tgt := 12) hx hb dX10_taken_8 (by decide) ?_
    refine lv_istore_n (lv' := [(3, .int 1), (0, .ref lh), (1, .int shelf), (2, .int as_)]) hx hb dX10_taken_12 rfl hl (by decide) rfl (fun ls hl => ?_)
    refine lv_iload_n hx hb dX10_taken_13 rfl (lv_at hl 2 rfl) ?_
    refine mcS hf hk hst hw (c_X10_isNoShelf l g shelf) (va_cwS 1 hts gX10_taken_X10_isNoShelf rfl rfl rfl hdS_X10_isNoShelf ⟨Nat.le_of_ble_eq_true rfl, Nat.le_of_ble_eq_true rfl⟩) [] rfl rfl rfl hl.1 rfl (Nat.le_of_ble_eq_true rfl) dX10_taken_14 ⟨Nat.zero_le _, Nat.zero_le _⟩ (W' := [cob lh 10 [.ref ak, .ref t, .ref yt, .ref xt, .int isk, .ref ltp, .ref lrw, .int (nI rc), .ref lac, .ref lsh, .ref lhh, .ref lhg, .ref lhr], cob t 8 [.ref ak, .ref tl, .ref tf, .ref ta, .ref tk, .ref tg, .ref tp, .ref tm, .int (nI cnt), .int (nI stp), .int z], cin g tk 8 kinds, cin g lhh 4 shh, cin g lhg 4 shg, cit g lhr 4 shr]) rfl (fun H locs hw => ?_)
    refine lv_if_ne (tgt := 35) hx hb dX10_taken_17 (by decide) (fun c_5 => ?_) (fun c_5 => ?_)
    · refine lv_iconst (v := (-1)) hx hb dX10_taken_35 (by decide) ?_
      exact rE_i hf hr hlk hw ⟨congrArg some (by simp only [f_X10_taken_n, if_pos c_1, if_neg c_5]), rfl⟩ (show ([lh, t, tk, lhh, lhg, lhr] : List Nat) = [lh, t, tk, lhh, lhg, lhr] from rfl) dX10_taken_36
    · have hs := out_n (N := 3) (by decide) c_5
      have hs2 := hs.2
      refine lv_iload_n hx hb dX10_taken_20 rfl (lv_at hl 0 rfl) ?_
      refine lv_if_ne (tgt := 37) hx hb dX10_taken_21 (by decide) (fun _ => ?_) (fun q => absurd q (by decide))
      refine lv_aload_n hx hb dX10_taken_37 rfl (lv_at hl 1 rfl) ?_
      refine lv_iload_n hx hb dX10_taken_38 rfl (lv_at hl 2 rfl) ?_
      refine lv_tope (y := nI (ix shelf)) hs.1 ?_
      refine mcV hf hk hst hw (c_X10_holdsGoer l g lh t tl tf ta tk tg tp tm cnt stp z xt yt ak isk ltp lrw rc lac lsh lhh lhg lhr shh shg (ix shelf) (by omega)) (cwV 1 hts gX10_taken_X10_holdsGoer rfl rfl rfl hdV_X10_holdsGoer ⟨Nat.le_of_ble_eq_true rfl, Nat.le_of_ble_eq_true rfl⟩) [0, 1, 3, 4] rfl rfl 0 rfl rfl rfl hl.1 rfl (Nat.le_of_ble_eq_true rfl) dX10_taken_39 ⟨Nat.zero_le _, Nat.zero_le _⟩ (W' := [cob lh 10 [.ref ak, .ref t, .ref yt, .ref xt, .int isk, .ref ltp, .ref lrw, .int (nI rc), .ref lac, .ref lsh, .ref lhh, .ref lhg, .ref lhr], cob t 8 [.ref ak, .ref tl, .ref tf, .ref ta, .ref tk, .ref tg, .ref tp, .ref tm, .int (nI cnt), .int (nI stp), .int z], cin g tk 8 kinds, cin g lhh 4 shh, cin g lhg 4 shg, cit g lhr 4 shr]) rfl (fun H locs hw => ?_)
      refine lv_if_eq (tgt := 87) hx hb dX10_taken_42 (by decide) (fun c_6 => ?_) (fun c_6 => ?_)
      · refine lv_aload_n hx hb dX10_taken_87 rfl (lv_at hl 1 rfl) ?_
        refine rg hf hk hw hinX10 0 rfl rfl 12 (by decide) w_0 rfl dX10_taken_88 ?_
        refine lv_iload_n hx hb dX10_taken_91 rfl (lv_at hl 2 rfl) ?_
        refine lv_tope (y := nI (ix shelf)) hs.1 ?_
        refine rqj hf hk hw 5 rfl (j := ix shelf) (r := none) (vp_in_nI (by omega) (by omega)) (nI_clamp (by omega)) (hso) dX10_taken_92 ?_
        refine lv_astoreN (lv' := [(4, .null), (3, .int 1), (0, .ref lh), (1, .int shelf), (2, .int as_)]) hx hb dX10_taken_93 hl (by decide) rfl (fun ls hl => ?_)
        refine lv_aloadN hx hb dX10_taken_95 (lv_at hl 0 rfl) ?_
        refine lv_ifnonnullN hx hb dX10_taken_97 ?_
        refine lv_bipush (v := (-11)) hx hb dX10_taken_100 (by decide) ?_
        exact rE_i hf hr hlk hw ⟨congrArg some (by simp only [f_X10_taken_n, if_pos c_1, if_pos c_5, if_pos c_6]), rfl⟩ (show ([lh, t, tk, lhh, lhg, lhr] : List Nat) = [lh, t, tk, lhh, lhg, lhr] from rfl) dX10_taken_102
      · have hg := holds_ok hc8 c_6
        have hg2 := hg.2
        refine lv_aload_n hx hb dX10_taken_45 rfl (lv_at hl 1 rfl) ?_
        refine rg hf hk hw hinX10 0 rfl rfl 11 (by decide) w_1 rfl dX10_taken_46 ?_
        refine lv_iload_n hx hb dX10_taken_49 rfl (lv_at hl 2 rfl) ?_
        refine lv_tope (y := nI (ix shelf)) hs.1 ?_
        refine rij hf hk hw 4 rfl (j := ix shelf) (vp_in_nI (by omega) (by omega)) (nI_clamp (by omega)) dX10_taken_50 ?_
        refine lv_istore (lv' := [(4, .int (shg (ix shelf))), (3, .int 1), (0, .ref lh), (1, .int shelf), (2, .int as_)]) hx hb dX10_taken_51 hl (by decide) rfl (fun ls hl => ?_)
        refine lv_iload_n hx hb dX10_taken_53 rfl (lv_at hl 1 rfl) ?_
        refine lv_if_eq (tgt := 84) hx hb dX10_taken_54 (by decide) (fun q => absurd q (by decide)) (fun _ => ?_)
        refine va_gets hx hb hst.2.2.1.1 hw.2.2 hf.2.2.2.1 (hts _ w_2) (fun _ h => h) dX10_taken_57 ?_
        refine lv_aload_n hx hb dX10_taken_60 rfl (lv_at hl 2 rfl) ?_
        refine rg hf hk hw hinX10 0 rfl rfl 1 (by decide) w_3 rfl dX10_taken_61 ?_
        refine rg hf hk hw hinX8 1 rfl rfl 4 (by decide) w_4 rfl dX10_taken_64 ?_
        refine lv_iload hx hb dX10_taken_67 (lv_at hl 0 rfl) ?_
        refine lv_tope (y := nI (ix (shg (ix shelf)))) hg.1 ?_
        refine rij hf hk hw 2 rfl (j := ix (shg (ix shelf))) (vp_in_nI (by omega) (by omega)) (nI_clamp (by omega)) dX10_taken_69 ?_
        refine va_ti hx hb hst.2.2.1.2 hw.2.2 (v := .int (tq_taken (ix (kinds (ix (shg (ix shelf))))))) (isK_in (hkd _ hg2)) (congrArg (fun j => Value.int (tq_taken j)) (rfl)) dX10_taken_70 ?_
        refine lv_iload_n hx hb dX10_taken_71 rfl (lv_at hl 4 rfl) ?_
        refine lv_ishr hx hb dX10_taken_72 ?_
        refine lv_iconst (v := 1) hx hb dX10_taken_73 (by decide) ?_
        refine lv_iand hx hb dX10_taken_74 ?_
        refine lv_iconst (v := 1) hx hb dX10_taken_75 (by decide) ?_
        refine lv_icmp_ne (tgt := 84) hx hb dX10_taken_76 (by decide) (fun c_7 => ?_) (fun c_7 => ?_)
        · refine lv_bipush (v := (-13)) hx hb dX10_taken_84 (by decide) ?_
          exact rE_i hf hr hlk hw ⟨congrArg some (by simp only [f_X10_taken_n, if_pos c_1, if_pos c_5, if_neg c_6, if_neg c_7]), rfl⟩ (show ([lh, t, tk, lhh, lhg, lhr] : List Nat) = [lh, t, tk, lhh, lhg, lhr] from rfl) dX10_taken_86
        · refine lv_iload hx hb dX10_taken_79 (lv_at hl 0 rfl) ?_
          refine lv_tope (y := nI (ix (shg (ix shelf)))) hg.1 ?_
          refine lv_goto (tgt := 86) hx hb dX10_taken_81 (by decide) ?_
          exact rE_i hf hr hlk hw ⟨congrArg some (by simp only [f_X10_taken_n, if_pos c_1, if_pos c_5, if_neg c_6, if_pos c_7]), rfl⟩ (show ([lh, t, tk, lhh, lhg, lhr] : List Nat) = [lh, t, tk, lhh, lhg, lhr] from rfl) dX10_taken_86
def f_X10_taken (kinds : Nat → Int32) (cnt : Nat) (shelf : Int32) (as_ : Int32) (shh : Nat → Int32) (shg : Nat → Int32) (iso : Int32) (isz : Nat) : Int32 := if (f_X10_isOutside as_ 0 5) = 0 then (if (f_X10_isOutside shelf 0 3) = 0 then (if (f_X10_holdsGoer cnt shh shg (ix shelf)) = 0 then (if iso = (as_ - 10) then (nI isz) else (-13)) else (if (((tq_taken (ix (kinds (ix (shg (ix shelf)))))) >>> (as_ &&& 31)) &&& 1) = 1 then (nI (ix (shg (ix shelf)))) else (-13))) else (-1)) else (if (f_X10_isOutside shelf 0 3) = 0 then (if (f_X10_isOutside as_ 10 13) = 0 then (if (f_X10_holdsGoer cnt shh shg (ix shelf)) = 0 then (if iso = (as_ - 10) then (nI isz) else (-13)) else (-13)) else (-1)) else (-1))
abbrev rmX10_taken_s : Room := { frames := 2, cells := 0, slots := 0, locals := 42 }
set_option maxHeartbeats 4000000 in
set_option maxRecDepth 100000 in
theorem c_X10_taken_s (l : Launch) (g : GG) (lh : Nat) (t : Nat) (tl : Nat) (tf : Nat) (ta : Nat) (tk : Nat) (tg : Nat) (tp : Nat) (tm : Nat) (kinds : Nat → Int32) (cnt : Nat) (stp : Nat) (z : Int32) (xt : Nat) (yt : Nat) (ak : Nat) (isk : Int32) (ltp : Nat) (lrw : Nat) (rc : Nat) (lac : Nat) (lsh : Nat) (lhh : Nat) (lhg : Nat) (lhr : Nat) (shelf : Int32) (as_ : Int32) (shh : Nat → Int32) (shg : Nat → Int32) (shr : Nat → Option Nat) (ia : Nat) (iv : Nat) (iso : Int32) (isz : Nat) (ivs : Nat → Int32) (hc8 : cnt ≤ 8) (hkd : ∀ j, j < cnt → isK (kinds j)) (hz40 : isz ≤ 40) (hso : shr (ix shelf) = some ia) : mtR l g yX10_taken wsX10_taken rmX10_taken_s [.ref lh, .int shelf, .int as_] [cob lh 10 [.ref ak, .ref t, .ref yt, .ref xt, .int isk, .ref ltp, .ref lrw, .int (nI rc), .ref lac, .ref lsh, .ref lhh, .ref lhg, .ref lhr], cob t 8 [.ref ak, .ref tl, .ref tf, .ref ta, .ref tk, .ref tg, .ref tp, .ref tm, .int (nI cnt), .int (nI stp), .int z], cin g tk 8 kinds, cin g lhh 4 shh, cin g lhg 4 shg, cit g lhr 4 shr, cob ia 3 [.int iso, .ref iv], cin g iv isz ivs] (fun rv W => rv = (some (.int (f_X10_taken kinds cnt shelf as_ shh shg iso isz))) ∧ W = [cob lh 10 [.ref ak, .ref t, .ref yt, .ref xt, .int isk, .ref ltp, .ref lrw, .int (nI rc), .ref lac, .ref lsh, .ref lhh, .ref lhg, .ref lhr], cob t 8 [.ref ak, .ref tl, .ref tf, .ref ta, .ref tk, .ref tg, .ref tp, .ref tm, .int (nI cnt), .int (nI stp), .int z], cin g tk 8 kinds, cin g lhh 4 shh, cin g lhg 4 shg, cit g lhr 4 shr, cob ia 3 [.int iso, .ref iv], cin g iv isz ivs]) := by
  refine mtR.of (cc := cX10_taken) (nL := 5) (ret := (some .int)) (own := RX10) (by decide +kernel) rfl rfl (Nat.le_of_ble_eq_true rfl) (fun p e s m below meth c hf hr hlk _ hk hst hw ls hl => ?_)
  have hx := hf.1
  have hb := hf.2.1
  have hts := hf.2.2.2.2
  have hl : lv_has ls 5 [(0, .ref lh), (1, .int shelf), (2, .int as_)] := hl
  have hinX10 : ∀ w ∈ u_ws RX10 TX10 13, w ∈ wsX10_taken := fun w h => List.mem_cons_of_mem _ (List.mem_append_left _ (List.mem_append_left _ (List.mem_append_right _ h)))
  have w_0 : Cond.fieldLink RX10 84 "LightMan" "shelfRows" "[LLightMan$Items;" ∈ wsX10_taken := List.mem_of_getElem? (i := 5) rfl
  have hinX3 : ∀ w ∈ u_ws RX3 TX3 2, w ∈ wsX10_taken := fun w h => List.mem_cons_of_mem _ (List.mem_append_right _ h)
  have w_1 : Cond.fieldLink RX10 260 "LightMan$Items" "sort" "I" ∈ wsX10_taken := List.mem_of_getElem? (i := 6) rfl
  have w_2 : Cond.fieldLink RX10 228 "LightMan$Items" "values" "[I" ∈ wsX10_taken := List.mem_of_getElem? (i := 7) rfl
  have w_3 : Cond.fieldLink RX10 81 "LightMan" "shelfGoers" "[I" ∈ wsX10_taken := List.mem_of_getElem? (i := 1) rfl
  have w_4 : Cond.fieldLink RX10 278 "LightMan" "TAKEN_FOR" "[I" ∈ wsX10_taken := List.mem_of_getElem? (i := 2) rfl
  have w_5 : Cond.fieldLink RX10 36 "LightMan" "now" "LLightMan$Tunnel;" ∈ wsX10_taken := List.mem_of_getElem? (i := 3) rfl
  have hinX8 : ∀ w ∈ u_ws RX8 TX8 11, w ∈ wsX10_taken := fun w h => List.mem_cons_of_mem _ (List.mem_append_left _ (List.mem_append_right _ h))
  have w_6 : Cond.fieldLink RX10 138 "LightMan$Tunnel" "kinds" "[I" ∈ wsX10_taken := List.mem_of_getElem? (i := 4) rfl
  refine lv_iload_n hx hb dX10_taken_0 rfl (lv_at hl 2 rfl) ?_
  refine mcS hf hk hst hw (c_X10_isNoKind l g as_) (va_cwS 1 hts gX10_taken_X10_isNoKind rfl rfl rfl hdS_X10_isNoKind ⟨Nat.le_of_ble_eq_true rfl, Nat.le_of_ble_eq_true rfl⟩) [] rfl rfl rfl hl.1 rfl (Nat.le_of_ble_eq_true rfl) dX10_taken_1 ⟨Nat.zero_le _, Nat.zero_le _⟩ (W' := [cob lh 10 [.ref ak, .ref t, .ref yt, .ref xt, .int isk, .ref ltp, .ref lrw, .int (nI rc), .ref lac, .ref lsh, .ref lhh, .ref lhg, .ref lhr], cob t 8 [.ref ak, .ref tl, .ref tf, .ref ta, .ref tk, .ref tg, .ref tp, .ref tm, .int (nI cnt), .int (nI stp), .int z], cin g tk 8 kinds, cin g lhh 4 shh, cin g lhg 4 shg, cit g lhr 4 shr, cob ia 3 [.int iso, .ref iv], cin g iv isz ivs]) rfl (fun H locs hw => ?_)
  refine lv_if_ne (tgt := 11) hx hb dX10_taken_4 (by decide) (fun c_1 => ?_) (fun c_1 => ?_)
  · refine lv_iconst (v := 0) hx hb dX10_taken_11 (by decide) ?_
    refine lv_istore_n (lv' := [(3, .int 0), (0, .ref lh), (1, .int shelf), (2, .int as_)]) hx hb dX10_taken_12 rfl hl (by decide) rfl (fun ls hl => ?_)
    refine lv_iload_n hx hb dX10_taken_13 rfl (lv_at hl 2 rfl) ?_
    refine mcS hf hk hst hw (c_X10_isNoShelf l g shelf) (va_cwS 1 hts gX10_taken_X10_isNoShelf rfl rfl rfl hdS_X10_isNoShelf ⟨Nat.le_of_ble_eq_true rfl, Nat.le_of_ble_eq_true rfl⟩) [] rfl rfl rfl hl.1 rfl (Nat.le_of_ble_eq_true rfl) dX10_taken_14 ⟨Nat.zero_le _, Nat.zero_le _⟩ (W' := [cob lh 10 [.ref ak, .ref t, .ref yt, .ref xt, .int isk, .ref ltp, .ref lrw, .int (nI rc), .ref lac, .ref lsh, .ref lhh, .ref lhg, .ref lhr], cob t 8 [.ref ak, .ref tl, .ref tf, .ref ta, .ref tk, .ref tg, .ref tp, .ref tm, .int (nI cnt), .int (nI stp), .int z], cin g tk 8 kinds, cin g lhh 4 shh, cin g lhg 4 shg, cit g lhr 4 shr, cob ia 3 [.int iso, .ref iv], cin g iv isz ivs]) rfl (fun H locs hw => ?_)
    refine lv_if_ne (tgt := 35) hx hb dX10_taken_17 (by decide) (fun c_2 => ?_) (fun c_2 => ?_)
    · refine lv_iconst (v := (-1)) hx hb dX10_taken_35 (by decide) ?_
      exact rE_i hf hr hlk hw ⟨congrArg some (by simp only [f_X10_taken, if_neg c_1, if_neg c_2]), rfl⟩ (show ([lh, t, tk, lhh, lhg, lhr, ia, iv] : List Nat) = [lh, t, tk, lhh, lhg, lhr, ia, iv] from rfl) dX10_taken_36
    · have hs := out_n (N := 3) (by decide) c_2
      have hs2 := hs.2
      refine lv_iload_n hx hb dX10_taken_20 rfl (lv_at hl 0 rfl) ?_
      refine lv_if_ne (tgt := 37) hx hb dX10_taken_21 (by decide) (fun q => absurd (by decide) q) (fun _ => ?_)
      refine lv_iload_n hx hb dX10_taken_24 rfl (lv_at hl 3 rfl) ?_
      refine lv_bipush (v := 10) hx hb dX10_taken_25 (by decide) ?_
      refine lv_bipush (v := 13) hx hb dX10_taken_27 (by decide) ?_
      refine mcS hf hk hst hw (c_X10_isOutside l g as_ 10 13) (va_cwS 3 hts gX10_taken_X10_isOutside rfl rfl rfl hdS_X10_isOutside ⟨Nat.le_of_ble_eq_true rfl, Nat.le_of_ble_eq_true rfl⟩) [] rfl rfl rfl hl.1 rfl (Nat.le_of_ble_eq_true rfl) dX10_taken_29 ⟨Nat.zero_le _, Nat.zero_le _⟩ (W' := [cob lh 10 [.ref ak, .ref t, .ref yt, .ref xt, .int isk, .ref ltp, .ref lrw, .int (nI rc), .ref lac, .ref lsh, .ref lhh, .ref lhg, .ref lhr], cob t 8 [.ref ak, .ref tl, .ref tf, .ref ta, .ref tk, .ref tg, .ref tp, .ref tm, .int (nI cnt), .int (nI stp), .int z], cin g tk 8 kinds, cin g lhh 4 shh, cin g lhg 4 shg, cit g lhr 4 shr, cob ia 3 [.int iso, .ref iv], cin g iv isz ivs]) rfl (fun H locs hw => ?_)
      refine lv_if_eq (tgt := 37) hx hb dX10_taken_32 (by decide) (fun c_3 => ?_) (fun c_3 => ?_)
      · refine lv_aload_n hx hb dX10_taken_37 rfl (lv_at hl 1 rfl) ?_
        refine lv_iload_n hx hb dX10_taken_38 rfl (lv_at hl 2 rfl) ?_
        refine lv_tope (y := nI (ix shelf)) hs.1 ?_
        refine mcV hf hk hst hw (c_X10_holdsGoer l g lh t tl tf ta tk tg tp tm cnt stp z xt yt ak isk ltp lrw rc lac lsh lhh lhg lhr shh shg (ix shelf) (by omega)) (cwV 1 hts gX10_taken_X10_holdsGoer rfl rfl rfl hdV_X10_holdsGoer ⟨Nat.le_of_ble_eq_true rfl, Nat.le_of_ble_eq_true rfl⟩) [0, 1, 3, 4] rfl rfl 0 rfl rfl rfl hl.1 rfl (Nat.le_of_ble_eq_true rfl) dX10_taken_39 ⟨Nat.zero_le _, Nat.zero_le _⟩ (W' := [cob lh 10 [.ref ak, .ref t, .ref yt, .ref xt, .int isk, .ref ltp, .ref lrw, .int (nI rc), .ref lac, .ref lsh, .ref lhh, .ref lhg, .ref lhr], cob t 8 [.ref ak, .ref tl, .ref tf, .ref ta, .ref tk, .ref tg, .ref tp, .ref tm, .int (nI cnt), .int (nI stp), .int z], cin g tk 8 kinds, cin g lhh 4 shh, cin g lhg 4 shg, cit g lhr 4 shr, cob ia 3 [.int iso, .ref iv], cin g iv isz ivs]) rfl (fun H locs hw => ?_)
        refine lv_if_eq (tgt := 87) hx hb dX10_taken_42 (by decide) (fun c_4 => ?_) (fun c_4 => ?_)
        · refine lv_aload_n hx hb dX10_taken_87 rfl (lv_at hl 1 rfl) ?_
          refine rg hf hk hw hinX10 0 rfl rfl 12 (by decide) w_0 rfl dX10_taken_88 ?_
          refine lv_iload_n hx hb dX10_taken_91 rfl (lv_at hl 2 rfl) ?_
          refine lv_tope (y := nI (ix shelf)) hs.1 ?_
          refine rqj hf hk hw 5 rfl (j := ix shelf) (r := some ia) (vp_in_nI (by omega) (by omega)) (nI_clamp (by omega)) (hso) dX10_taken_92 ?_
          refine lv_astore (lv' := [(4, .ref ia), (3, .int 0), (0, .ref lh), (1, .int shelf), (2, .int as_)]) hx hb dX10_taken_93 hl (by decide) rfl (fun ls hl => ?_)
          refine lv_aload hx hb dX10_taken_95 (lv_at hl 0 rfl) ?_
          refine lv_ifnonnull (tgt := 103) hx hb dX10_taken_97 (by decide) ?_
          refine lv_aload hx hb dX10_taken_103 (lv_at hl 0 rfl) ?_
          refine rg hf hk hw hinX3 6 rfl rfl 0 (by decide) w_1 rfl dX10_taken_105 ?_
          refine lv_iload_n hx hb dX10_taken_108 rfl (lv_at hl 4 rfl) ?_
          refine lv_bipush (v := 10) hx hb dX10_taken_109 (by decide) ?_
          refine lv_isub hx hb dX10_taken_111 ?_
          refine lv_icmp_ne (tgt := 124) hx hb dX10_taken_112 (by decide) (fun c_5 => ?_) (fun c_5 => ?_)
          · refine lv_bipush (v := (-13)) hx hb dX10_taken_124 (by decide) ?_
            exact rE_i hf hr hlk hw ⟨congrArg some (by simp only [f_X10_taken, if_neg c_1, if_pos c_2, if_pos c_3, if_pos c_4, if_neg c_5]), rfl⟩ (show ([lh, t, tk, lhh, lhg, lhr, ia, iv] : List Nat) = [lh, t, tk, lhh, lhg, lhr, ia, iv] from rfl) dX10_taken_126
          · refine lv_aload hx hb dX10_taken_115 (lv_at hl 0 rfl) ?_
            refine rg hf hk hw hinX3 6 rfl rfl 1 (by decide) w_2 rfl dX10_taken_117 ?_
            refine ral hf hk hw 7 rfl (v := nI isz) rfl dX10_taken_120 ?_
            refine lv_goto (tgt := 126) hx hb dX10_taken_121 (by decide) ?_
            exact rE_i hf hr hlk hw ⟨congrArg some (by simp only [f_X10_taken, if_neg c_1, if_pos c_2, if_pos c_3, if_pos c_4, if_pos c_5]), rfl⟩ (show ([lh, t, tk, lhh, lhg, lhr, ia, iv] : List Nat) = [lh, t, tk, lhh, lhg, lhr, ia, iv] from rfl) dX10_taken_126
        · have hg := holds_ok hc8 c_4
          have hg2 := hg.2
          refine lv_aload_n hx hb dX10_taken_45 rfl (lv_at hl 1 rfl) ?_
          refine rg hf hk hw hinX10 0 rfl rfl 11 (by decide) w_3 rfl dX10_taken_46 ?_
          refine lv_iload_n hx hb dX10_taken_49 rfl (lv_at hl 2 rfl) ?_
          refine lv_tope (y := nI (ix shelf)) hs.1 ?_
          refine rij hf hk hw 4 rfl (j := ix shelf) (vp_in_nI (by omega) (by omega)) (nI_clamp (by omega)) dX10_taken_50 ?_
          refine lv_istore (lv' := [(4, .int (shg (ix shelf))), (3, .int 0), (0, .ref lh), (1, .int shelf), (2, .int as_)]) hx hb dX10_taken_51 hl (by decide) rfl (fun ls hl => ?_)
          refine lv_iload_n hx hb dX10_taken_53 rfl (lv_at hl 1 rfl) ?_
          refine lv_if_eq (tgt := 84) hx hb dX10_taken_54 (by decide) (fun _ => ?_) (fun q => absurd (by decide) q)
          refine lv_bipush (v := (-13)) hx hb dX10_taken_84 (by decide) ?_
          exact rE_i hf hr hlk hw ⟨congrArg some (by simp only [f_X10_taken, if_neg c_1, if_pos c_2, if_pos c_3, if_neg c_4]), rfl⟩ (show ([lh, t, tk, lhh, lhg, lhr, ia, iv] : List Nat) = [lh, t, tk, lhh, lhg, lhr, ia, iv] from rfl) dX10_taken_86
      · refine lv_iconst (v := (-1)) hx hb dX10_taken_35 (by decide) ?_
        exact rE_i hf hr hlk hw ⟨congrArg some (by simp only [f_X10_taken, if_neg c_1, if_pos c_2, if_neg c_3]), rfl⟩ (show ([lh, t, tk, lhh, lhg, lhr, ia, iv] : List Nat) = [lh, t, tk, lhh, lhg, lhr, ia, iv] from rfl) dX10_taken_36
  · refine lv_iconst (v := 1) hx hb dX10_taken_7 (by decide) ?_
    refine lv_goto (tgt := 12) hx hb dX10_taken_8 (by decide) ?_
    refine lv_istore_n (lv' := [(3, .int 1), (0, .ref lh), (1, .int shelf), (2, .int as_)]) hx hb dX10_taken_12 rfl hl (by decide) rfl (fun ls hl => ?_)
    refine lv_iload_n hx hb dX10_taken_13 rfl (lv_at hl 2 rfl) ?_
    refine mcS hf hk hst hw (c_X10_isNoShelf l g shelf) (va_cwS 1 hts gX10_taken_X10_isNoShelf rfl rfl rfl hdS_X10_isNoShelf ⟨Nat.le_of_ble_eq_true rfl, Nat.le_of_ble_eq_true rfl⟩) [] rfl rfl rfl hl.1 rfl (Nat.le_of_ble_eq_true rfl) dX10_taken_14 ⟨Nat.zero_le _, Nat.zero_le _⟩ (W' := [cob lh 10 [.ref ak, .ref t, .ref yt, .ref xt, .int isk, .ref ltp, .ref lrw, .int (nI rc), .ref lac, .ref lsh, .ref lhh, .ref lhg, .ref lhr], cob t 8 [.ref ak, .ref tl, .ref tf, .ref ta, .ref tk, .ref tg, .ref tp, .ref tm, .int (nI cnt), .int (nI stp), .int z], cin g tk 8 kinds, cin g lhh 4 shh, cin g lhg 4 shg, cit g lhr 4 shr, cob ia 3 [.int iso, .ref iv], cin g iv isz ivs]) rfl (fun H locs hw => ?_)
    refine lv_if_ne (tgt := 35) hx hb dX10_taken_17 (by decide) (fun c_6 => ?_) (fun c_6 => ?_)
    · refine lv_iconst (v := (-1)) hx hb dX10_taken_35 (by decide) ?_
      exact rE_i hf hr hlk hw ⟨congrArg some (by simp only [f_X10_taken, if_pos c_1, if_neg c_6]), rfl⟩ (show ([lh, t, tk, lhh, lhg, lhr, ia, iv] : List Nat) = [lh, t, tk, lhh, lhg, lhr, ia, iv] from rfl) dX10_taken_36
    · have hs := out_n (N := 3) (by decide) c_6
      have hs2 := hs.2
      refine lv_iload_n hx hb dX10_taken_20 rfl (lv_at hl 0 rfl) ?_
      refine lv_if_ne (tgt := 37) hx hb dX10_taken_21 (by decide) (fun _ => ?_) (fun q => absurd q (by decide))
      refine lv_aload_n hx hb dX10_taken_37 rfl (lv_at hl 1 rfl) ?_
      refine lv_iload_n hx hb dX10_taken_38 rfl (lv_at hl 2 rfl) ?_
      refine lv_tope (y := nI (ix shelf)) hs.1 ?_
      refine mcV hf hk hst hw (c_X10_holdsGoer l g lh t tl tf ta tk tg tp tm cnt stp z xt yt ak isk ltp lrw rc lac lsh lhh lhg lhr shh shg (ix shelf) (by omega)) (cwV 1 hts gX10_taken_X10_holdsGoer rfl rfl rfl hdV_X10_holdsGoer ⟨Nat.le_of_ble_eq_true rfl, Nat.le_of_ble_eq_true rfl⟩) [0, 1, 3, 4] rfl rfl 0 rfl rfl rfl hl.1 rfl (Nat.le_of_ble_eq_true rfl) dX10_taken_39 ⟨Nat.zero_le _, Nat.zero_le _⟩ (W' := [cob lh 10 [.ref ak, .ref t, .ref yt, .ref xt, .int isk, .ref ltp, .ref lrw, .int (nI rc), .ref lac, .ref lsh, .ref lhh, .ref lhg, .ref lhr], cob t 8 [.ref ak, .ref tl, .ref tf, .ref ta, .ref tk, .ref tg, .ref tp, .ref tm, .int (nI cnt), .int (nI stp), .int z], cin g tk 8 kinds, cin g lhh 4 shh, cin g lhg 4 shg, cit g lhr 4 shr, cob ia 3 [.int iso, .ref iv], cin g iv isz ivs]) rfl (fun H locs hw => ?_)
      refine lv_if_eq (tgt := 87) hx hb dX10_taken_42 (by decide) (fun c_7 => ?_) (fun c_7 => ?_)
      · refine lv_aload_n hx hb dX10_taken_87 rfl (lv_at hl 1 rfl) ?_
        refine rg hf hk hw hinX10 0 rfl rfl 12 (by decide) w_0 rfl dX10_taken_88 ?_
        refine lv_iload_n hx hb dX10_taken_91 rfl (lv_at hl 2 rfl) ?_
        refine lv_tope (y := nI (ix shelf)) hs.1 ?_
        refine rqj hf hk hw 5 rfl (j := ix shelf) (r := some ia) (vp_in_nI (by omega) (by omega)) (nI_clamp (by omega)) (hso) dX10_taken_92 ?_
        refine lv_astore (lv' := [(4, .ref ia), (3, .int 1), (0, .ref lh), (1, .int shelf), (2, .int as_)]) hx hb dX10_taken_93 hl (by decide) rfl (fun ls hl => ?_)
        refine lv_aload hx hb dX10_taken_95 (lv_at hl 0 rfl) ?_
        refine lv_ifnonnull (tgt := 103) hx hb dX10_taken_97 (by decide) ?_
        refine lv_aload hx hb dX10_taken_103 (lv_at hl 0 rfl) ?_
        refine rg hf hk hw hinX3 6 rfl rfl 0 (by decide) w_1 rfl dX10_taken_105 ?_
        refine lv_iload_n hx hb dX10_taken_108 rfl (lv_at hl 4 rfl) ?_
        refine lv_bipush (v := 10) hx hb dX10_taken_109 (by decide) ?_
        refine lv_isub hx hb dX10_taken_111 ?_
        refine lv_icmp_ne (tgt := 124) hx hb dX10_taken_112 (by decide) (fun c_8 => ?_) (fun c_8 => ?_)
        · refine lv_bipush (v := (-13)) hx hb dX10_taken_124 (by decide) ?_
          exact rE_i hf hr hlk hw ⟨congrArg some (by simp only [f_X10_taken, if_pos c_1, if_pos c_6, if_pos c_7, if_neg c_8]), rfl⟩ (show ([lh, t, tk, lhh, lhg, lhr, ia, iv] : List Nat) = [lh, t, tk, lhh, lhg, lhr, ia, iv] from rfl) dX10_taken_126
        · refine lv_aload hx hb dX10_taken_115 (lv_at hl 0 rfl) ?_
          refine rg hf hk hw hinX3 6 rfl rfl 1 (by decide) w_2 rfl dX10_taken_117 ?_
          refine ral hf hk hw 7 rfl (v := nI isz) rfl dX10_taken_120 ?_
          refine lv_goto (tgt := 126) hx hb dX10_taken_121 (by decide) ?_
          exact rE_i hf hr hlk hw ⟨congrArg some (by simp only [f_X10_taken, if_pos c_1, if_pos c_6, if_pos c_7, if_pos c_8]), rfl⟩ (show ([lh, t, tk, lhh, lhg, lhr, ia, iv] : List Nat) = [lh, t, tk, lhh, lhg, lhr, ia, iv] from rfl) dX10_taken_126
      · have hg := holds_ok hc8 c_7
        have hg2 := hg.2
        refine lv_aload_n hx hb dX10_taken_45 rfl (lv_at hl 1 rfl) ?_
        refine rg hf hk hw hinX10 0 rfl rfl 11 (by decide) w_3 rfl dX10_taken_46 ?_
        refine lv_iload_n hx hb dX10_taken_49 rfl (lv_at hl 2 rfl) ?_
        refine lv_tope (y := nI (ix shelf)) hs.1 ?_
        refine rij hf hk hw 4 rfl (j := ix shelf) (vp_in_nI (by omega) (by omega)) (nI_clamp (by omega)) dX10_taken_50 ?_
        refine lv_istore (lv' := [(4, .int (shg (ix shelf))), (3, .int 1), (0, .ref lh), (1, .int shelf), (2, .int as_)]) hx hb dX10_taken_51 hl (by decide) rfl (fun ls hl => ?_)
        refine lv_iload_n hx hb dX10_taken_53 rfl (lv_at hl 1 rfl) ?_
        refine lv_if_eq (tgt := 84) hx hb dX10_taken_54 (by decide) (fun q => absurd q (by decide)) (fun _ => ?_)
        refine va_gets hx hb hst.2.2.1.1 hw.2.2 hf.2.2.2.1 (hts _ w_4) (fun _ h => h) dX10_taken_57 ?_
        refine lv_aload_n hx hb dX10_taken_60 rfl (lv_at hl 2 rfl) ?_
        refine rg hf hk hw hinX10 0 rfl rfl 1 (by decide) w_5 rfl dX10_taken_61 ?_
        refine rg hf hk hw hinX8 1 rfl rfl 4 (by decide) w_6 rfl dX10_taken_64 ?_
        refine lv_iload hx hb dX10_taken_67 (lv_at hl 0 rfl) ?_
        refine lv_tope (y := nI (ix (shg (ix shelf)))) hg.1 ?_
        refine rij hf hk hw 2 rfl (j := ix (shg (ix shelf))) (vp_in_nI (by omega) (by omega)) (nI_clamp (by omega)) dX10_taken_69 ?_
        refine va_ti hx hb hst.2.2.1.2 hw.2.2 (v := .int (tq_taken (ix (kinds (ix (shg (ix shelf))))))) (isK_in (hkd _ hg2)) (congrArg (fun j => Value.int (tq_taken j)) (rfl)) dX10_taken_70 ?_
        refine lv_iload_n hx hb dX10_taken_71 rfl (lv_at hl 4 rfl) ?_
        refine lv_ishr hx hb dX10_taken_72 ?_
        refine lv_iconst (v := 1) hx hb dX10_taken_73 (by decide) ?_
        refine lv_iand hx hb dX10_taken_74 ?_
        refine lv_iconst (v := 1) hx hb dX10_taken_75 (by decide) ?_
        refine lv_icmp_ne (tgt := 84) hx hb dX10_taken_76 (by decide) (fun c_9 => ?_) (fun c_9 => ?_)
        · refine lv_bipush (v := (-13)) hx hb dX10_taken_84 (by decide) ?_
          exact rE_i hf hr hlk hw ⟨congrArg some (by simp only [f_X10_taken, if_pos c_1, if_pos c_6, if_neg c_7, if_neg c_9]), rfl⟩ (show ([lh, t, tk, lhh, lhg, lhr, ia, iv] : List Nat) = [lh, t, tk, lhh, lhg, lhr, ia, iv] from rfl) dX10_taken_86
        · refine lv_iload hx hb dX10_taken_79 (lv_at hl 0 rfl) ?_
          refine lv_tope (y := nI (ix (shg (ix shelf)))) hg.1 ?_
          refine lv_goto (tgt := 86) hx hb dX10_taken_81 (by decide) ?_
          exact rE_i hf hr hlk hw ⟨congrArg some (by simp only [f_X10_taken, if_pos c_1, if_pos c_6, if_neg c_7, if_pos c_9]), rfl⟩ (show ([lh, t, tk, lhh, lhg, lhr, ia, iv] : List Nat) = [lh, t, tk, lhh, lhg, lhr, ia, iv] from rfl) dX10_taken_86
def f_X10_shelf_n (cnt : Nat) (shelf : Int32) (what : Int32) (n : Int32) : Int32 := if (f_X10_isOutside shelf 0 3) = 0 then (if (f_X10_isOutside what 0 2) = 0 then (if what = 0 then (if (f_X8_has cnt n) = 0 then (-1) else (if what = 1 then (if (f_X10_isOutside n 0 3) = 0 then 1 else (-1)) else 1)) else (if what = 1 then (if (f_X10_isOutside n 0 3) = 0 then 1 else (-1)) else 1)) else (-1)) else (-1)
def f_X10_shelf_n_w1 (cnt : Nat) (shelf : Int32) (what : Int32) (n : Int32) (shh : Nat → Int32) : Nat → Int32 := if (f_X10_isOutside shelf 0 3) = 0 then (if (f_X10_isOutside what 0 2) = 0 then (if what = 0 then (if (f_X8_has cnt n) = 0 then shh else (if what = 1 then (if (f_X10_isOutside n 0 3) = 0 then (upd shh (ix shelf) what) else shh) else (upd shh (ix shelf) what))) else (if what = 1 then (if (f_X10_isOutside n 0 3) = 0 then (upd shh (ix shelf) what) else shh) else (upd shh (ix shelf) what))) else shh) else shh
def f_X10_shelf_n_w2 (cnt : Nat) (shelf : Int32) (what : Int32) (n : Int32) (shg : Nat → Int32) : Nat → Int32 := if (f_X10_isOutside shelf 0 3) = 0 then (if (f_X10_isOutside what 0 2) = 0 then (if what = 0 then (if (f_X8_has cnt n) = 0 then shg else (if what = 1 then (if (f_X10_isOutside n 0 3) = 0 then (upd shg (ix shelf) (nI (ix n))) else shg) else (upd shg (ix shelf) n))) else (if what = 1 then (if (f_X10_isOutside n 0 3) = 0 then (upd shg (ix shelf) 0) else shg) else (upd shg (ix shelf) 0))) else shg) else shg
def f_X10_shelf_n_w3 (cnt : Nat) (shelf : Int32) (what : Int32) (n : Int32) (shr : Nat → Option Nat) : Nat → Option Nat := if (f_X10_isOutside shelf 0 3) = 0 then (if (f_X10_isOutside what 0 2) = 0 then (if what = 0 then (if (f_X8_has cnt n) = 0 then shr else (if what = 1 then (if (f_X10_isOutside n 0 3) = 0 then (va_up shr (ix shelf) none) else shr) else (va_up shr (ix shelf) none))) else (if what = 1 then (if (f_X10_isOutside n 0 3) = 0 then (va_up shr (ix shelf) none) else shr) else (va_up shr (ix shelf) none))) else shr) else shr
abbrev rmX10_shelf_n : Room := { frames := 2, cells := 0, slots := 0, locals := 42 }
set_option maxHeartbeats 4000000 in
set_option maxRecDepth 100000 in
theorem c_X10_shelf_n (l : Launch) (g : GG) (lh : Nat) (t : Nat) (tl : Nat) (tf : Nat) (ta : Nat) (tk : Nat) (tg : Nat) (tp : Nat) (tm : Nat) (cnt : Nat) (stp : Nat) (z : Int32) (xt : Nat) (yt : Nat) (ak : Nat) (isk : Int32) (ltp : Nat) (lrw : Nat) (rc : Nat) (lac : Nat) (lsh : Nat) (lhh : Nat) (lhg : Nat) (lhr : Nat) (shelf : Int32) (what : Int32) (n : Int32) (shh : Nat → Int32) (shg : Nat → Int32) (sht : Nat → Option Nat) (shr : Nat → Option Nat) (hc8 : cnt ≤ 8) (hso : sht (ix n) = none) : mtR l g yX10_shelf wsX10_shelf rmX10_shelf_n [.ref lh, .int shelf, .int what, .int n] [cob lh 10 [.ref ak, .ref t, .ref yt, .ref xt, .int isk, .ref ltp, .ref lrw, .int (nI rc), .ref lac, .ref lsh, .ref lhh, .ref lhg, .ref lhr], cob t 8 [.ref ak, .ref tl, .ref tf, .ref ta, .ref tk, .ref tg, .ref tp, .ref tm, .int (nI cnt), .int (nI stp), .int z], cin g lhh 4 shh, cin g lhg 4 shg, cit g lsh 4 sht, cit g lhr 4 shr] (fun rv W => rv = (some (.int (f_X10_shelf_n cnt shelf what n))) ∧ W = [cob lh 10 [.ref ak, .ref t, .ref yt, .ref xt, .int isk, .ref ltp, .ref lrw, .int (nI rc), .ref lac, .ref lsh, .ref lhh, .ref lhg, .ref lhr], cob t 8 [.ref ak, .ref tl, .ref tf, .ref ta, .ref tk, .ref tg, .ref tp, .ref tm, .int (nI cnt), .int (nI stp), .int z], cin g lhh 4 (f_X10_shelf_n_w1 cnt shelf what n shh), cin g lhg 4 (f_X10_shelf_n_w2 cnt shelf what n shg), cit g lsh 4 sht, cit g lhr 4 (f_X10_shelf_n_w3 cnt shelf what n shr)]) := by
  refine mtR.of (cc := cX10_shelf) (nL := 4) (ret := (some .int)) (own := RX10) (by decide +kernel) rfl rfl (Nat.le_of_ble_eq_true rfl) (fun p e s m below meth c hf hr hlk _ hk hst hw ls hl => ?_)
  have hx := hf.1
  have hb := hf.2.1
  have hts := hf.2.2.2.2
  have hl : lv_has ls 4 [(0, .ref lh), (1, .int shelf), (2, .int what), (3, .int n)] := hl
  have hinX10 : ∀ w ∈ u_ws RX10 TX10 13, w ∈ wsX10_shelf := fun w h => List.mem_cons_of_mem _ (List.mem_append_left _ (List.mem_append_right _ h))
  have w_0 : Cond.fieldLink RX10 78 "LightMan" "shelfHolds" "[I" ∈ wsX10_shelf := List.mem_of_getElem? (i := 2) rfl
  have w_1 : Cond.fieldLink RX10 81 "LightMan" "shelfGoers" "[I" ∈ wsX10_shelf := List.mem_of_getElem? (i := 3) rfl
  have w_2 : Cond.fieldLink RX10 84 "LightMan" "shelfRows" "[LLightMan$Items;" ∈ wsX10_shelf := List.mem_of_getElem? (i := 4) rfl
  have w_3 : Cond.fieldLink RX10 74 "LightMan" "sheets" "[LLightMan$Items;" ∈ wsX10_shelf := List.mem_of_getElem? (i := 5) rfl
  have w_4 : Cond.fieldLink RX10 36 "LightMan" "now" "LLightMan$Tunnel;" ∈ wsX10_shelf := List.mem_of_getElem? (i := 1) rfl
  refine lv_iload_n hx hb dX10_shelf_0 rfl (lv_at hl 1 rfl) ?_
  refine mcS hf hk hst hw (c_X10_isNoShelf l g shelf) (va_cwS 1 hts gX10_shelf_X10_isNoShelf rfl rfl rfl hdS_X10_isNoShelf ⟨Nat.le_of_ble_eq_true rfl, Nat.le_of_ble_eq_true rfl⟩) [] rfl rfl rfl hl.1 rfl (Nat.le_of_ble_eq_true rfl) dX10_shelf_1 ⟨Nat.zero_le _, Nat.zero_le _⟩ (W' := [cob lh 10 [.ref ak, .ref t, .ref yt, .ref xt, .int isk, .ref ltp, .ref lrw, .int (nI rc), .ref lac, .ref lsh, .ref lhh, .ref lhg, .ref lhr], cob t 8 [.ref ak, .ref tl, .ref tf, .ref ta, .ref tk, .ref tg, .ref tp, .ref tm, .int (nI cnt), .int (nI stp), .int z], cin g lhh 4 shh, cin g lhg 4 shg, cit g lsh 4 sht, cit g lhr 4 shr]) rfl (fun H locs hw => ?_)
  refine lv_if_ne (tgt := 43) hx hb dX10_shelf_4 (by decide) (fun c_1 => ?_) (fun c_1 => ?_)
  · refine lv_iconst (v := (-1)) hx hb dX10_shelf_43 (by decide) ?_
    exact rE_i hf hr hlk hw ⟨congrArg some (by simp only [f_X10_shelf_n, if_neg c_1]), by simp only [f_X10_shelf_n_w1, f_X10_shelf_n_w2, f_X10_shelf_n_w3, if_neg c_1]⟩ (show ([lh, t, lhh, lhg, lsh, lhr] : List Nat) = [lh, t, lhh, lhg, lsh, lhr] from rfl) dX10_shelf_44
  · have hs := out_n (N := 3) (by decide) c_1
    have hs2 := hs.2
    refine lv_iload_n hx hb dX10_shelf_7 rfl (lv_at hl 2 rfl) ?_
    refine lv_iconst (v := 0) hx hb dX10_shelf_8 (by decide) ?_
    refine lv_iconst (v := 2) hx hb dX10_shelf_9 (by decide) ?_
    refine mcS hf hk hst hw (c_X10_isOutside l g what 0 2) (va_cwS 3 hts gX10_shelf_X10_isOutside rfl rfl rfl hdS_X10_isOutside ⟨Nat.le_of_ble_eq_true rfl, Nat.le_of_ble_eq_true rfl⟩) [] rfl rfl rfl hl.1 rfl (Nat.le_of_ble_eq_true rfl) dX10_shelf_10 ⟨Nat.zero_le _, Nat.zero_le _⟩ (W' := [cob lh 10 [.ref ak, .ref t, .ref yt, .ref xt, .int isk, .ref ltp, .ref lrw, .int (nI rc), .ref lac, .ref lsh, .ref lhh, .ref lhg, .ref lhr], cob t 8 [.ref ak, .ref tl, .ref tf, .ref ta, .ref tk, .ref tg, .ref tp, .ref tm, .int (nI cnt), .int (nI stp), .int z], cin g lhh 4 shh, cin g lhg 4 shg, cit g lsh 4 sht, cit g lhr 4 shr]) rfl (fun H locs hw => ?_)
    refine lv_if_ne (tgt := 43) hx hb dX10_shelf_13 (by decide) (fun c_2 => ?_) (fun c_2 => ?_)
    · refine lv_iconst (v := (-1)) hx hb dX10_shelf_43 (by decide) ?_
      exact rE_i hf hr hlk hw ⟨congrArg some (by simp only [f_X10_shelf_n, if_pos c_1, if_neg c_2]), by simp only [f_X10_shelf_n_w1, f_X10_shelf_n_w2, f_X10_shelf_n_w3, if_pos c_1, if_neg c_2]⟩ (show ([lh, t, lhh, lhg, lsh, lhr] : List Nat) = [lh, t, lhh, lhg, lsh, lhr] from rfl) dX10_shelf_44
    · refine lv_iload_n hx hb dX10_shelf_16 rfl (lv_at hl 2 rfl) ?_
      refine lv_if_ne (tgt := 31) hx hb dX10_shelf_17 (by decide) (fun c_3 => ?_) (fun c_3 => ?_)
      · refine lv_iload_n hx hb dX10_shelf_31 rfl (lv_at hl 2 rfl) ?_
        refine lv_iconst (v := 1) hx hb dX10_shelf_32 (by decide) ?_
        refine lv_icmp_ne (tgt := 45) hx hb dX10_shelf_33 (by decide) (fun c_4 => ?_) (fun c_4 => ?_)
        · refine lv_aload_n hx hb dX10_shelf_45 rfl (lv_at hl 0 rfl) ?_
          refine rg hf hk hw hinX10 0 rfl rfl 10 (by decide) w_0 rfl dX10_shelf_46 ?_
          refine lv_iload_n hx hb dX10_shelf_49 rfl (lv_at hl 1 rfl) ?_
          refine lv_tope (y := nI (ix shelf)) hs.1 ?_
          refine lv_iload_n hx hb dX10_shelf_50 rfl (lv_at hl 2 rfl) ?_
          refine rsj hf hk hw 2 rfl (j := ix shelf) (vp_in_nI (by omega) (by omega)) (nI_clamp (by omega)) dX10_shelf_51 (W' := [cob lh 10 [.ref ak, .ref t, .ref yt, .ref xt, .int isk, .ref ltp, .ref lrw, .int (nI rc), .ref lac, .ref lsh, .ref lhh, .ref lhg, .ref lhr], cob t 8 [.ref ak, .ref tl, .ref tf, .ref ta, .ref tk, .ref tg, .ref tp, .ref tm, .int (nI cnt), .int (nI stp), .int z], cin g lhh 4 (upd shh (ix shelf) what), cin g lhg 4 shg, cit g lsh 4 sht, cit g lhr 4 shr]) rfl (fun H locs hw => ?_)
          refine lv_aload_n hx hb dX10_shelf_52 rfl (lv_at hl 0 rfl) ?_
          refine rg hf hk hw hinX10 0 rfl rfl 11 (by decide) w_1 rfl dX10_shelf_53 ?_
          refine lv_iload_n hx hb dX10_shelf_56 rfl (lv_at hl 1 rfl) ?_
          refine lv_tope (y := nI (ix shelf)) hs.1 ?_
          refine lv_iload_n hx hb dX10_shelf_57 rfl (lv_at hl 2 rfl) ?_
          refine lv_if_ne (tgt := 65) hx hb dX10_shelf_58 (by decide) (fun _ => ?_) (fun q => absurd q (c_3))
          refine lv_iconst (v := 0) hx hb dX10_shelf_65 (by decide) ?_
          refine rsj hf hk hw 3 rfl (j := ix shelf) (vp_in_nI (by omega) (by omega)) (nI_clamp (by omega)) dX10_shelf_66 (W' := [cob lh 10 [.ref ak, .ref t, .ref yt, .ref xt, .int isk, .ref ltp, .ref lrw, .int (nI rc), .ref lac, .ref lsh, .ref lhh, .ref lhg, .ref lhr], cob t 8 [.ref ak, .ref tl, .ref tf, .ref ta, .ref tk, .ref tg, .ref tp, .ref tm, .int (nI cnt), .int (nI stp), .int z], cin g lhh 4 (upd shh (ix shelf) what), cin g lhg 4 (upd shg (ix shelf) 0), cit g lsh 4 sht, cit g lhr 4 shr]) rfl (fun H locs hw => ?_)
          refine lv_aload_n hx hb dX10_shelf_67 rfl (lv_at hl 0 rfl) ?_
          refine rg hf hk hw hinX10 0 rfl rfl 12 (by decide) w_2 rfl dX10_shelf_68 ?_
          refine lv_iload_n hx hb dX10_shelf_71 rfl (lv_at hl 1 rfl) ?_
          refine lv_tope (y := nI (ix shelf)) hs.1 ?_
          refine lv_iload_n hx hb dX10_shelf_72 rfl (lv_at hl 2 rfl) ?_
          refine lv_iconst (v := 1) hx hb dX10_shelf_73 (by decide) ?_
          refine lv_icmp_ne (tgt := 86) hx hb dX10_shelf_74 (by decide) (fun _ => ?_) (fun q => absurd q (c_4))
          refine lv_null hx hb dX10_shelf_86 ?_
          refine rqn hf hk hw 5 rfl (j := ix shelf) (vp_in_nI (by omega) (by omega)) (nI_clamp (by omega)) dX10_shelf_87 (W' := [cob lh 10 [.ref ak, .ref t, .ref yt, .ref xt, .int isk, .ref ltp, .ref lrw, .int (nI rc), .ref lac, .ref lsh, .ref lhh, .ref lhg, .ref lhr], cob t 8 [.ref ak, .ref tl, .ref tf, .ref ta, .ref tk, .ref tg, .ref tp, .ref tm, .int (nI cnt), .int (nI stp), .int z], cin g lhh 4 (upd shh (ix shelf) what), cin g lhg 4 (upd shg (ix shelf) 0), cit g lsh 4 sht, cit g lhr 4 (va_up shr (ix shelf) none)]) rfl (fun H locs hw => ?_)
          refine lv_iconst (v := 1) hx hb dX10_shelf_88 (by decide) ?_
          exact rE_i hf hr hlk hw ⟨congrArg some (by simp only [f_X10_shelf_n, if_pos c_1, if_pos c_2, if_neg c_3, if_neg c_4]), by simp only [f_X10_shelf_n_w1, f_X10_shelf_n_w2, f_X10_shelf_n_w3, if_pos c_1, if_pos c_2, if_neg c_3, if_neg c_4]⟩ (show ([lh, t, lhh, lhg, lsh, lhr] : List Nat) = [lh, t, lhh, lhg, lsh, lhr] from rfl) dX10_shelf_89
        · refine lv_iload_n hx hb dX10_shelf_36 rfl (lv_at hl 3 rfl) ?_
          refine mcS hf hk hst hw (c_X10_isNoSheet l g n) (va_cwS 1 hts gX10_shelf_X10_isNoSheet rfl rfl rfl hdS_X10_isNoSheet ⟨Nat.le_of_ble_eq_true rfl, Nat.le_of_ble_eq_true rfl⟩) [] rfl rfl rfl hl.1 rfl (Nat.le_of_ble_eq_true rfl) dX10_shelf_37 ⟨Nat.zero_le _, Nat.zero_le _⟩ (W' := [cob lh 10 [.ref ak, .ref t, .ref yt, .ref xt, .int isk, .ref ltp, .ref lrw, .int (nI rc), .ref lac, .ref lsh, .ref lhh, .ref lhg, .ref lhr], cob t 8 [.ref ak, .ref tl, .ref tf, .ref ta, .ref tk, .ref tg, .ref tp, .ref tm, .int (nI cnt), .int (nI stp), .int z], cin g lhh 4 shh, cin g lhg 4 shg, cit g lsh 4 sht, cit g lhr 4 shr]) rfl (fun H locs hw => ?_)
          refine lv_if_eq (tgt := 45) hx hb dX10_shelf_40 (by decide) (fun c_5 => ?_) (fun c_5 => ?_)
          · have hn := out_n (N := 3) (by decide) c_5
            have hn2 := hn.2
            refine lv_aload_n hx hb dX10_shelf_45 rfl (lv_at hl 0 rfl) ?_
            refine rg hf hk hw hinX10 0 rfl rfl 10 (by decide) w_0 rfl dX10_shelf_46 ?_
            refine lv_iload_n hx hb dX10_shelf_49 rfl (lv_at hl 1 rfl) ?_
            refine lv_tope (y := nI (ix shelf)) hs.1 ?_
            refine lv_iload_n hx hb dX10_shelf_50 rfl (lv_at hl 2 rfl) ?_
            refine rsj hf hk hw 2 rfl (j := ix shelf) (vp_in_nI (by omega) (by omega)) (nI_clamp (by omega)) dX10_shelf_51 (W' := [cob lh 10 [.ref ak, .ref t, .ref yt, .ref xt, .int isk, .ref ltp, .ref lrw, .int (nI rc), .ref lac, .ref lsh, .ref lhh, .ref lhg, .ref lhr], cob t 8 [.ref ak, .ref tl, .ref tf, .ref ta, .ref tk, .ref tg, .ref tp, .ref tm, .int (nI cnt), .int (nI stp), .int z], cin g lhh 4 (upd shh (ix shelf) what), cin g lhg 4 shg, cit g lsh 4 sht, cit g lhr 4 shr]) rfl (fun H locs hw => ?_)
            refine lv_aload_n hx hb dX10_shelf_52 rfl (lv_at hl 0 rfl) ?_
            refine rg hf hk hw hinX10 0 rfl rfl 11 (by decide) w_1 rfl dX10_shelf_53 ?_
            refine lv_iload_n hx hb dX10_shelf_56 rfl (lv_at hl 1 rfl) ?_
            refine lv_tope (y := nI (ix shelf)) hs.1 ?_
            refine lv_iload_n hx hb dX10_shelf_57 rfl (lv_at hl 2 rfl) ?_
            refine lv_if_ne (tgt := 65) hx hb dX10_shelf_58 (by decide) (fun _ => ?_) (fun q => absurd q (c_3))
            refine lv_iconst (v := 0) hx hb dX10_shelf_65 (by decide) ?_
            refine rsj hf hk hw 3 rfl (j := ix shelf) (vp_in_nI (by omega) (by omega)) (nI_clamp (by omega)) dX10_shelf_66 (W' := [cob lh 10 [.ref ak, .ref t, .ref yt, .ref xt, .int isk, .ref ltp, .ref lrw, .int (nI rc), .ref lac, .ref lsh, .ref lhh, .ref lhg, .ref lhr], cob t 8 [.ref ak, .ref tl, .ref tf, .ref ta, .ref tk, .ref tg, .ref tp, .ref tm, .int (nI cnt), .int (nI stp), .int z], cin g lhh 4 (upd shh (ix shelf) what), cin g lhg 4 (upd shg (ix shelf) 0), cit g lsh 4 sht, cit g lhr 4 shr]) rfl (fun H locs hw => ?_)
            refine lv_aload_n hx hb dX10_shelf_67 rfl (lv_at hl 0 rfl) ?_
            refine rg hf hk hw hinX10 0 rfl rfl 12 (by decide) w_2 rfl dX10_shelf_68 ?_
            refine lv_iload_n hx hb dX10_shelf_71 rfl (lv_at hl 1 rfl) ?_
            refine lv_tope (y := nI (ix shelf)) hs.1 ?_
            refine lv_iload_n hx hb dX10_shelf_72 rfl (lv_at hl 2 rfl) ?_
            refine lv_iconst (v := 1) hx hb dX10_shelf_73 (by decide) ?_
            refine lv_icmp_ne (tgt := 86) hx hb dX10_shelf_74 (by decide) (fun q => absurd (c_4) q) (fun _ => ?_)
            refine lv_aload_n hx hb dX10_shelf_77 rfl (lv_at hl 0 rfl) ?_
            refine rg hf hk hw hinX10 0 rfl rfl 9 (by decide) w_3 rfl dX10_shelf_78 ?_
            refine lv_iload_n hx hb dX10_shelf_81 rfl (lv_at hl 3 rfl) ?_
            refine lv_tope (y := nI (ix n)) hn.1 ?_
            refine rqj hf hk hw 4 rfl (j := ix n) (r := none) (vp_in_nI (by omega) (by omega)) (nI_clamp (by omega)) (hso) dX10_shelf_82 ?_
            refine lv_goto (tgt := 87) hx hb dX10_shelf_83 (by decide) ?_
            refine rqn hf hk hw 5 rfl (j := ix shelf) (vp_in_nI (by omega) (by omega)) (nI_clamp (by omega)) dX10_shelf_87 (W' := [cob lh 10 [.ref ak, .ref t, .ref yt, .ref xt, .int isk, .ref ltp, .ref lrw, .int (nI rc), .ref lac, .ref lsh, .ref lhh, .ref lhg, .ref lhr], cob t 8 [.ref ak, .ref tl, .ref tf, .ref ta, .ref tk, .ref tg, .ref tp, .ref tm, .int (nI cnt), .int (nI stp), .int z], cin g lhh 4 (upd shh (ix shelf) what), cin g lhg 4 (upd shg (ix shelf) 0), cit g lsh 4 sht, cit g lhr 4 (va_up shr (ix shelf) none)]) rfl (fun H locs hw => ?_)
            refine lv_iconst (v := 1) hx hb dX10_shelf_88 (by decide) ?_
            exact rE_i hf hr hlk hw ⟨congrArg some (by simp only [f_X10_shelf_n, if_pos c_1, if_pos c_2, if_neg c_3, if_pos c_4, if_pos c_5]), by simp only [f_X10_shelf_n_w1, f_X10_shelf_n_w2, f_X10_shelf_n_w3, if_pos c_1, if_pos c_2, if_neg c_3, if_pos c_4, if_pos c_5]⟩ (show ([lh, t, lhh, lhg, lsh, lhr] : List Nat) = [lh, t, lhh, lhg, lsh, lhr] from rfl) dX10_shelf_89
          · refine lv_iconst (v := (-1)) hx hb dX10_shelf_43 (by decide) ?_
            exact rE_i hf hr hlk hw ⟨congrArg some (by simp only [f_X10_shelf_n, if_pos c_1, if_pos c_2, if_neg c_3, if_pos c_4, if_neg c_5]), by simp only [f_X10_shelf_n_w1, f_X10_shelf_n_w2, f_X10_shelf_n_w3, if_pos c_1, if_pos c_2, if_neg c_3, if_pos c_4, if_neg c_5]⟩ (show ([lh, t, lhh, lhg, lsh, lhr] : List Nat) = [lh, t, lhh, lhg, lsh, lhr] from rfl) dX10_shelf_44
      · refine lv_aload_n hx hb dX10_shelf_20 rfl (lv_at hl 0 rfl) ?_
        refine rg hf hk hw hinX10 0 rfl rfl 1 (by decide) w_4 rfl dX10_shelf_21 ?_
        refine lv_iload_n hx hb dX10_shelf_24 rfl (lv_at hl 3 rfl) ?_
        refine mcV hf hk hst hw (c_X8_has l g t tl tf ta tk tg tp tm cnt stp z ak n) (cwV 1 hts gX10_shelf_X8_has rfl rfl rfl hdV_X8_has ⟨Nat.le_of_ble_eq_true rfl, Nat.le_of_ble_eq_true rfl⟩) [1] rfl rfl 1 rfl rfl rfl hl.1 rfl (Nat.le_of_ble_eq_true rfl) dX10_shelf_25 ⟨Nat.zero_le _, Nat.zero_le _⟩ (W' := [cob lh 10 [.ref ak, .ref t, .ref yt, .ref xt, .int isk, .ref ltp, .ref lrw, .int (nI rc), .ref lac, .ref lsh, .ref lhh, .ref lhg, .ref lhr], cob t 8 [.ref ak, .ref tl, .ref tf, .ref ta, .ref tk, .ref tg, .ref tp, .ref tm, .int (nI cnt), .int (nI stp), .int z], cin g lhh 4 shh, cin g lhg 4 shg, cit g lsh 4 sht, cit g lhr 4 shr]) rfl (fun H locs hw => ?_)
        refine lv_if_eq (tgt := 43) hx hb dX10_shelf_28 (by decide) (fun c_6 => ?_) (fun c_6 => ?_)
        · refine lv_iconst (v := (-1)) hx hb dX10_shelf_43 (by decide) ?_
          exact rE_i hf hr hlk hw ⟨congrArg some (by simp only [f_X10_shelf_n, if_pos c_1, if_pos c_2, if_pos c_3, if_pos c_6]), by simp only [f_X10_shelf_n_w1, f_X10_shelf_n_w2, f_X10_shelf_n_w3, if_pos c_1, if_pos c_2, if_pos c_3, if_pos c_6]⟩ (show ([lh, t, lhh, lhg, lsh, lhr] : List Nat) = [lh, t, lhh, lhg, lsh, lhr] from rfl) dX10_shelf_44
        · refine lv_iload_n hx hb dX10_shelf_31 rfl (lv_at hl 2 rfl) ?_
          refine lv_iconst (v := 1) hx hb dX10_shelf_32 (by decide) ?_
          refine lv_icmp_ne (tgt := 45) hx hb dX10_shelf_33 (by decide) (fun c_7 => ?_) (fun c_7 => ?_)
          · refine lv_aload_n hx hb dX10_shelf_45 rfl (lv_at hl 0 rfl) ?_
            refine rg hf hk hw hinX10 0 rfl rfl 10 (by decide) w_0 rfl dX10_shelf_46 ?_
            refine lv_iload_n hx hb dX10_shelf_49 rfl (lv_at hl 1 rfl) ?_
            refine lv_tope (y := nI (ix shelf)) hs.1 ?_
            refine lv_iload_n hx hb dX10_shelf_50 rfl (lv_at hl 2 rfl) ?_
            refine rsj hf hk hw 2 rfl (j := ix shelf) (vp_in_nI (by omega) (by omega)) (nI_clamp (by omega)) dX10_shelf_51 (W' := [cob lh 10 [.ref ak, .ref t, .ref yt, .ref xt, .int isk, .ref ltp, .ref lrw, .int (nI rc), .ref lac, .ref lsh, .ref lhh, .ref lhg, .ref lhr], cob t 8 [.ref ak, .ref tl, .ref tf, .ref ta, .ref tk, .ref tg, .ref tp, .ref tm, .int (nI cnt), .int (nI stp), .int z], cin g lhh 4 (upd shh (ix shelf) what), cin g lhg 4 shg, cit g lsh 4 sht, cit g lhr 4 shr]) rfl (fun H locs hw => ?_)
            refine lv_aload_n hx hb dX10_shelf_52 rfl (lv_at hl 0 rfl) ?_
            refine rg hf hk hw hinX10 0 rfl rfl 11 (by decide) w_1 rfl dX10_shelf_53 ?_
            refine lv_iload_n hx hb dX10_shelf_56 rfl (lv_at hl 1 rfl) ?_
            refine lv_tope (y := nI (ix shelf)) hs.1 ?_
            refine lv_iload_n hx hb dX10_shelf_57 rfl (lv_at hl 2 rfl) ?_
            refine lv_if_ne (tgt := 65) hx hb dX10_shelf_58 (by decide) (fun q => absurd (c_3) q) (fun _ => ?_)
            refine lv_iload_n hx hb dX10_shelf_61 rfl (lv_at hl 3 rfl) ?_
            refine lv_goto (tgt := 66) hx hb dX10_shelf_62 (by decide) ?_
            refine rsj hf hk hw 3 rfl (j := ix shelf) (vp_in_nI (by omega) (by omega)) (nI_clamp (by omega)) dX10_shelf_66 (W' := [cob lh 10 [.ref ak, .ref t, .ref yt, .ref xt, .int isk, .ref ltp, .ref lrw, .int (nI rc), .ref lac, .ref lsh, .ref lhh, .ref lhg, .ref lhr], cob t 8 [.ref ak, .ref tl, .ref tf, .ref ta, .ref tk, .ref tg, .ref tp, .ref tm, .int (nI cnt), .int (nI stp), .int z], cin g lhh 4 (upd shh (ix shelf) what), cin g lhg 4 (upd shg (ix shelf) n), cit g lsh 4 sht, cit g lhr 4 shr]) rfl (fun H locs hw => ?_)
            refine lv_aload_n hx hb dX10_shelf_67 rfl (lv_at hl 0 rfl) ?_
            refine rg hf hk hw hinX10 0 rfl rfl 12 (by decide) w_2 rfl dX10_shelf_68 ?_
            refine lv_iload_n hx hb dX10_shelf_71 rfl (lv_at hl 1 rfl) ?_
            refine lv_tope (y := nI (ix shelf)) hs.1 ?_
            refine lv_iload_n hx hb dX10_shelf_72 rfl (lv_at hl 2 rfl) ?_
            refine lv_iconst (v := 1) hx hb dX10_shelf_73 (by decide) ?_
            refine lv_icmp_ne (tgt := 86) hx hb dX10_shelf_74 (by decide) (fun _ => ?_) (fun q => absurd q (c_7))
            refine lv_null hx hb dX10_shelf_86 ?_
            refine rqn hf hk hw 5 rfl (j := ix shelf) (vp_in_nI (by omega) (by omega)) (nI_clamp (by omega)) dX10_shelf_87 (W' := [cob lh 10 [.ref ak, .ref t, .ref yt, .ref xt, .int isk, .ref ltp, .ref lrw, .int (nI rc), .ref lac, .ref lsh, .ref lhh, .ref lhg, .ref lhr], cob t 8 [.ref ak, .ref tl, .ref tf, .ref ta, .ref tk, .ref tg, .ref tp, .ref tm, .int (nI cnt), .int (nI stp), .int z], cin g lhh 4 (upd shh (ix shelf) what), cin g lhg 4 (upd shg (ix shelf) n), cit g lsh 4 sht, cit g lhr 4 (va_up shr (ix shelf) none)]) rfl (fun H locs hw => ?_)
            refine lv_iconst (v := 1) hx hb dX10_shelf_88 (by decide) ?_
            exact rE_i hf hr hlk hw ⟨congrArg some (by simp only [f_X10_shelf_n, if_pos c_1, if_pos c_2, if_pos c_3, if_neg c_6, if_neg c_7]), by simp only [f_X10_shelf_n_w1, f_X10_shelf_n_w2, f_X10_shelf_n_w3, if_pos c_1, if_pos c_2, if_pos c_3, if_neg c_6, if_neg c_7]⟩ (show ([lh, t, lhh, lhg, lsh, lhr] : List Nat) = [lh, t, lhh, lhg, lsh, lhr] from rfl) dX10_shelf_89
          · refine lv_iload_n hx hb dX10_shelf_36 rfl (lv_at hl 3 rfl) ?_
            refine mcS hf hk hst hw (c_X10_isNoSheet l g n) (va_cwS 1 hts gX10_shelf_X10_isNoSheet rfl rfl rfl hdS_X10_isNoSheet ⟨Nat.le_of_ble_eq_true rfl, Nat.le_of_ble_eq_true rfl⟩) [] rfl rfl rfl hl.1 rfl (Nat.le_of_ble_eq_true rfl) dX10_shelf_37 ⟨Nat.zero_le _, Nat.zero_le _⟩ (W' := [cob lh 10 [.ref ak, .ref t, .ref yt, .ref xt, .int isk, .ref ltp, .ref lrw, .int (nI rc), .ref lac, .ref lsh, .ref lhh, .ref lhg, .ref lhr], cob t 8 [.ref ak, .ref tl, .ref tf, .ref ta, .ref tk, .ref tg, .ref tp, .ref tm, .int (nI cnt), .int (nI stp), .int z], cin g lhh 4 shh, cin g lhg 4 shg, cit g lsh 4 sht, cit g lhr 4 shr]) rfl (fun H locs hw => ?_)
            refine lv_if_eq (tgt := 45) hx hb dX10_shelf_40 (by decide) (fun c_8 => ?_) (fun c_8 => ?_)
            · have hn := out_n (N := 3) (by decide) c_8
              have hn2 := hn.2
              refine lv_aload_n hx hb dX10_shelf_45 rfl (lv_at hl 0 rfl) ?_
              refine rg hf hk hw hinX10 0 rfl rfl 10 (by decide) w_0 rfl dX10_shelf_46 ?_
              refine lv_iload_n hx hb dX10_shelf_49 rfl (lv_at hl 1 rfl) ?_
              refine lv_tope (y := nI (ix shelf)) hs.1 ?_
              refine lv_iload_n hx hb dX10_shelf_50 rfl (lv_at hl 2 rfl) ?_
              refine rsj hf hk hw 2 rfl (j := ix shelf) (vp_in_nI (by omega) (by omega)) (nI_clamp (by omega)) dX10_shelf_51 (W' := [cob lh 10 [.ref ak, .ref t, .ref yt, .ref xt, .int isk, .ref ltp, .ref lrw, .int (nI rc), .ref lac, .ref lsh, .ref lhh, .ref lhg, .ref lhr], cob t 8 [.ref ak, .ref tl, .ref tf, .ref ta, .ref tk, .ref tg, .ref tp, .ref tm, .int (nI cnt), .int (nI stp), .int z], cin g lhh 4 (upd shh (ix shelf) what), cin g lhg 4 shg, cit g lsh 4 sht, cit g lhr 4 shr]) rfl (fun H locs hw => ?_)
              refine lv_aload_n hx hb dX10_shelf_52 rfl (lv_at hl 0 rfl) ?_
              refine rg hf hk hw hinX10 0 rfl rfl 11 (by decide) w_1 rfl dX10_shelf_53 ?_
              refine lv_iload_n hx hb dX10_shelf_56 rfl (lv_at hl 1 rfl) ?_
              refine lv_tope (y := nI (ix shelf)) hs.1 ?_
              refine lv_iload_n hx hb dX10_shelf_57 rfl (lv_at hl 2 rfl) ?_
              refine lv_if_ne (tgt := 65) hx hb dX10_shelf_58 (by decide) (fun q => absurd (c_3) q) (fun _ => ?_)
              refine lv_iload_n hx hb dX10_shelf_61 rfl (lv_at hl 3 rfl) ?_
              refine lv_tope (y := nI (ix n)) hn.1 ?_
              refine lv_goto (tgt := 66) hx hb dX10_shelf_62 (by decide) ?_
              refine rsj hf hk hw 3 rfl (j := ix shelf) (vp_in_nI (by omega) (by omega)) (nI_clamp (by omega)) dX10_shelf_66 (W' := [cob lh 10 [.ref ak, .ref t, .ref yt, .ref xt, .int isk, .ref ltp, .ref lrw, .int (nI rc), .ref lac, .ref lsh, .ref lhh, .ref lhg, .ref lhr], cob t 8 [.ref ak, .ref tl, .ref tf, .ref ta, .ref tk, .ref tg, .ref tp, .ref tm, .int (nI cnt), .int (nI stp), .int z], cin g lhh 4 (upd shh (ix shelf) what), cin g lhg 4 (upd shg (ix shelf) (nI (ix n))), cit g lsh 4 sht, cit g lhr 4 shr]) rfl (fun H locs hw => ?_)
              refine lv_aload_n hx hb dX10_shelf_67 rfl (lv_at hl 0 rfl) ?_
              refine rg hf hk hw hinX10 0 rfl rfl 12 (by decide) w_2 rfl dX10_shelf_68 ?_
              refine lv_iload_n hx hb dX10_shelf_71 rfl (lv_at hl 1 rfl) ?_
              refine lv_tope (y := nI (ix shelf)) hs.1 ?_
              refine lv_iload_n hx hb dX10_shelf_72 rfl (lv_at hl 2 rfl) ?_
              refine lv_iconst (v := 1) hx hb dX10_shelf_73 (by decide) ?_
              refine lv_icmp_ne (tgt := 86) hx hb dX10_shelf_74 (by decide) (fun q => absurd (c_7) q) (fun _ => ?_)
              refine lv_aload_n hx hb dX10_shelf_77 rfl (lv_at hl 0 rfl) ?_
              refine rg hf hk hw hinX10 0 rfl rfl 9 (by decide) w_3 rfl dX10_shelf_78 ?_
              refine lv_iload_n hx hb dX10_shelf_81 rfl (lv_at hl 3 rfl) ?_
              refine lv_tope (y := nI (ix n)) hn.1 ?_
              refine rqj hf hk hw 4 rfl (j := ix n) (r := none) (vp_in_nI (by omega) (by omega)) (nI_clamp (by omega)) (hso) dX10_shelf_82 ?_
              refine lv_goto (tgt := 87) hx hb dX10_shelf_83 (by decide) ?_
              refine rqn hf hk hw 5 rfl (j := ix shelf) (vp_in_nI (by omega) (by omega)) (nI_clamp (by omega)) dX10_shelf_87 (W' := [cob lh 10 [.ref ak, .ref t, .ref yt, .ref xt, .int isk, .ref ltp, .ref lrw, .int (nI rc), .ref lac, .ref lsh, .ref lhh, .ref lhg, .ref lhr], cob t 8 [.ref ak, .ref tl, .ref tf, .ref ta, .ref tk, .ref tg, .ref tp, .ref tm, .int (nI cnt), .int (nI stp), .int z], cin g lhh 4 (upd shh (ix shelf) what), cin g lhg 4 (upd shg (ix shelf) (nI (ix n))), cit g lsh 4 sht, cit g lhr 4 (va_up shr (ix shelf) none)]) rfl (fun H locs hw => ?_)
              refine lv_iconst (v := 1) hx hb dX10_shelf_88 (by decide) ?_
              exact rE_i hf hr hlk hw ⟨congrArg some (by simp only [f_X10_shelf_n, if_pos c_1, if_pos c_2, if_pos c_3, if_neg c_6, if_pos c_7, if_pos c_8]), by simp only [f_X10_shelf_n_w1, f_X10_shelf_n_w2, f_X10_shelf_n_w3, if_pos c_1, if_pos c_2, if_pos c_3, if_neg c_6, if_pos c_7, if_pos c_8]⟩ (show ([lh, t, lhh, lhg, lsh, lhr] : List Nat) = [lh, t, lhh, lhg, lsh, lhr] from rfl) dX10_shelf_89
            · refine lv_iconst (v := (-1)) hx hb dX10_shelf_43 (by decide) ?_
              exact rE_i hf hr hlk hw ⟨congrArg some (by simp only [f_X10_shelf_n, if_pos c_1, if_pos c_2, if_pos c_3, if_neg c_6, if_pos c_7, if_neg c_8]), by simp only [f_X10_shelf_n_w1, f_X10_shelf_n_w2, f_X10_shelf_n_w3, if_pos c_1, if_pos c_2, if_pos c_3, if_neg c_6, if_pos c_7, if_neg c_8]⟩ (show ([lh, t, lhh, lhg, lsh, lhr] : List Nat) = [lh, t, lhh, lhg, lsh, lhr] from rfl) dX10_shelf_44
def f_X10_shelf (cnt : Nat) (shelf : Int32) (what : Int32) (n : Int32) : Int32 := if (f_X10_isOutside shelf 0 3) = 0 then (if (f_X10_isOutside what 0 2) = 0 then (if what = 0 then (if (f_X8_has cnt n) = 0 then (-1) else (if what = 1 then (if (f_X10_isOutside n 0 3) = 0 then 1 else (-1)) else 1)) else (if what = 1 then (if (f_X10_isOutside n 0 3) = 0 then 1 else (-1)) else 1)) else (-1)) else (-1)
def f_X10_shelf_w1 (cnt : Nat) (shelf : Int32) (what : Int32) (n : Int32) (shh : Nat → Int32) : Nat → Int32 := if (f_X10_isOutside shelf 0 3) = 0 then (if (f_X10_isOutside what 0 2) = 0 then (if what = 0 then (if (f_X8_has cnt n) = 0 then shh else (if what = 1 then (if (f_X10_isOutside n 0 3) = 0 then (upd shh (ix shelf) what) else shh) else (upd shh (ix shelf) what))) else (if what = 1 then (if (f_X10_isOutside n 0 3) = 0 then (upd shh (ix shelf) what) else shh) else (upd shh (ix shelf) what))) else shh) else shh
def f_X10_shelf_w2 (cnt : Nat) (shelf : Int32) (what : Int32) (n : Int32) (shg : Nat → Int32) : Nat → Int32 := if (f_X10_isOutside shelf 0 3) = 0 then (if (f_X10_isOutside what 0 2) = 0 then (if what = 0 then (if (f_X8_has cnt n) = 0 then shg else (if what = 1 then (if (f_X10_isOutside n 0 3) = 0 then (upd shg (ix shelf) (nI (ix n))) else shg) else (upd shg (ix shelf) n))) else (if what = 1 then (if (f_X10_isOutside n 0 3) = 0 then (upd shg (ix shelf) 0) else shg) else (upd shg (ix shelf) 0))) else shg) else shg
def f_X10_shelf_w3 (cnt : Nat) (shelf : Int32) (what : Int32) (n : Int32) (shr : Nat → Option Nat) (ia : Nat) : Nat → Option Nat := if (f_X10_isOutside shelf 0 3) = 0 then (if (f_X10_isOutside what 0 2) = 0 then (if what = 0 then (if (f_X8_has cnt n) = 0 then shr else (if what = 1 then (if (f_X10_isOutside n 0 3) = 0 then (va_up shr (ix shelf) (some ia)) else shr) else (va_up shr (ix shelf) none))) else (if what = 1 then (if (f_X10_isOutside n 0 3) = 0 then (va_up shr (ix shelf) (some ia)) else shr) else (va_up shr (ix shelf) none))) else shr) else shr
abbrev rmX10_shelf_s : Room := { frames := 2, cells := 0, slots := 0, locals := 42 }
set_option maxHeartbeats 4000000 in
set_option maxRecDepth 100000 in
theorem c_X10_shelf_s (l : Launch) (g : GG) (lh : Nat) (t : Nat) (tl : Nat) (tf : Nat) (ta : Nat) (tk : Nat) (tg : Nat) (tp : Nat) (tm : Nat) (cnt : Nat) (stp : Nat) (z : Int32) (xt : Nat) (yt : Nat) (ak : Nat) (isk : Int32) (ltp : Nat) (lrw : Nat) (rc : Nat) (lac : Nat) (lsh : Nat) (lhh : Nat) (lhg : Nat) (lhr : Nat) (shelf : Int32) (what : Int32) (n : Int32) (shh : Nat → Int32) (shg : Nat → Int32) (sht : Nat → Option Nat) (shr : Nat → Option Nat) (ia : Nat) (iv : Nat) (iso : Int32) (isz : Nat) (hc8 : cnt ≤ 8) (hz40 : isz ≤ 40) (hso : sht (ix n) = some ia) : mtR l g yX10_shelf wsX10_shelf rmX10_shelf_s [.ref lh, .int shelf, .int what, .int n] [cob lh 10 [.ref ak, .ref t, .ref yt, .ref xt, .int isk, .ref ltp, .ref lrw, .int (nI rc), .ref lac, .ref lsh, .ref lhh, .ref lhg, .ref lhr], cob t 8 [.ref ak, .ref tl, .ref tf, .ref ta, .ref tk, .ref tg, .ref tp, .ref tm, .int (nI cnt), .int (nI stp), .int z], cin g lhh 4 shh, cin g lhg 4 shg, cit g lsh 4 sht, cit g lhr 4 shr, cob ia 3 [.int iso, .ref iv]] (fun rv W => rv = (some (.int (f_X10_shelf cnt shelf what n))) ∧ W = [cob lh 10 [.ref ak, .ref t, .ref yt, .ref xt, .int isk, .ref ltp, .ref lrw, .int (nI rc), .ref lac, .ref lsh, .ref lhh, .ref lhg, .ref lhr], cob t 8 [.ref ak, .ref tl, .ref tf, .ref ta, .ref tk, .ref tg, .ref tp, .ref tm, .int (nI cnt), .int (nI stp), .int z], cin g lhh 4 (f_X10_shelf_w1 cnt shelf what n shh), cin g lhg 4 (f_X10_shelf_w2 cnt shelf what n shg), cit g lsh 4 sht, cit g lhr 4 (f_X10_shelf_w3 cnt shelf what n shr ia), cob ia 3 [.int iso, .ref iv]]) := by
  refine mtR.of (cc := cX10_shelf) (nL := 4) (ret := (some .int)) (own := RX10) (by decide +kernel) rfl rfl (Nat.le_of_ble_eq_true rfl) (fun p e s m below meth c hf hr hlk _ hk hst hw ls hl => ?_)
  have hx := hf.1
  have hb := hf.2.1
  have hts := hf.2.2.2.2
  have hl : lv_has ls 4 [(0, .ref lh), (1, .int shelf), (2, .int what), (3, .int n)] := hl
  have hinX10 : ∀ w ∈ u_ws RX10 TX10 13, w ∈ wsX10_shelf := fun w h => List.mem_cons_of_mem _ (List.mem_append_left _ (List.mem_append_right _ h))
  have w_0 : Cond.fieldLink RX10 78 "LightMan" "shelfHolds" "[I" ∈ wsX10_shelf := List.mem_of_getElem? (i := 2) rfl
  have w_1 : Cond.fieldLink RX10 81 "LightMan" "shelfGoers" "[I" ∈ wsX10_shelf := List.mem_of_getElem? (i := 3) rfl
  have w_2 : Cond.fieldLink RX10 84 "LightMan" "shelfRows" "[LLightMan$Items;" ∈ wsX10_shelf := List.mem_of_getElem? (i := 4) rfl
  have w_3 : Cond.fieldLink RX10 74 "LightMan" "sheets" "[LLightMan$Items;" ∈ wsX10_shelf := List.mem_of_getElem? (i := 5) rfl
  have w_4 : Cond.fieldLink RX10 36 "LightMan" "now" "LLightMan$Tunnel;" ∈ wsX10_shelf := List.mem_of_getElem? (i := 1) rfl
  refine lv_iload_n hx hb dX10_shelf_0 rfl (lv_at hl 1 rfl) ?_
  refine mcS hf hk hst hw (c_X10_isNoShelf l g shelf) (va_cwS 1 hts gX10_shelf_X10_isNoShelf rfl rfl rfl hdS_X10_isNoShelf ⟨Nat.le_of_ble_eq_true rfl, Nat.le_of_ble_eq_true rfl⟩) [] rfl rfl rfl hl.1 rfl (Nat.le_of_ble_eq_true rfl) dX10_shelf_1 ⟨Nat.zero_le _, Nat.zero_le _⟩ (W' := [cob lh 10 [.ref ak, .ref t, .ref yt, .ref xt, .int isk, .ref ltp, .ref lrw, .int (nI rc), .ref lac, .ref lsh, .ref lhh, .ref lhg, .ref lhr], cob t 8 [.ref ak, .ref tl, .ref tf, .ref ta, .ref tk, .ref tg, .ref tp, .ref tm, .int (nI cnt), .int (nI stp), .int z], cin g lhh 4 shh, cin g lhg 4 shg, cit g lsh 4 sht, cit g lhr 4 shr, cob ia 3 [.int iso, .ref iv]]) rfl (fun H locs hw => ?_)
  refine lv_if_ne (tgt := 43) hx hb dX10_shelf_4 (by decide) (fun c_1 => ?_) (fun c_1 => ?_)
  · refine lv_iconst (v := (-1)) hx hb dX10_shelf_43 (by decide) ?_
    exact rE_i hf hr hlk hw ⟨congrArg some (by simp only [f_X10_shelf, if_neg c_1]), by simp only [f_X10_shelf_w1, f_X10_shelf_w2, f_X10_shelf_w3, if_neg c_1]⟩ (show ([lh, t, lhh, lhg, lsh, lhr, ia] : List Nat) = [lh, t, lhh, lhg, lsh, lhr, ia] from rfl) dX10_shelf_44
  · have hs := out_n (N := 3) (by decide) c_1
    have hs2 := hs.2
    refine lv_iload_n hx hb dX10_shelf_7 rfl (lv_at hl 2 rfl) ?_
    refine lv_iconst (v := 0) hx hb dX10_shelf_8 (by decide) ?_
    refine lv_iconst (v := 2) hx hb dX10_shelf_9 (by decide) ?_
    refine mcS hf hk hst hw (c_X10_isOutside l g what 0 2) (va_cwS 3 hts gX10_shelf_X10_isOutside rfl rfl rfl hdS_X10_isOutside ⟨Nat.le_of_ble_eq_true rfl, Nat.le_of_ble_eq_true rfl⟩) [] rfl rfl rfl hl.1 rfl (Nat.le_of_ble_eq_true rfl) dX10_shelf_10 ⟨Nat.zero_le _, Nat.zero_le _⟩ (W' := [cob lh 10 [.ref ak, .ref t, .ref yt, .ref xt, .int isk, .ref ltp, .ref lrw, .int (nI rc), .ref lac, .ref lsh, .ref lhh, .ref lhg, .ref lhr], cob t 8 [.ref ak, .ref tl, .ref tf, .ref ta, .ref tk, .ref tg, .ref tp, .ref tm, .int (nI cnt), .int (nI stp), .int z], cin g lhh 4 shh, cin g lhg 4 shg, cit g lsh 4 sht, cit g lhr 4 shr, cob ia 3 [.int iso, .ref iv]]) rfl (fun H locs hw => ?_)
    refine lv_if_ne (tgt := 43) hx hb dX10_shelf_13 (by decide) (fun c_2 => ?_) (fun c_2 => ?_)
    · refine lv_iconst (v := (-1)) hx hb dX10_shelf_43 (by decide) ?_
      exact rE_i hf hr hlk hw ⟨congrArg some (by simp only [f_X10_shelf, if_pos c_1, if_neg c_2]), by simp only [f_X10_shelf_w1, f_X10_shelf_w2, f_X10_shelf_w3, if_pos c_1, if_neg c_2]⟩ (show ([lh, t, lhh, lhg, lsh, lhr, ia] : List Nat) = [lh, t, lhh, lhg, lsh, lhr, ia] from rfl) dX10_shelf_44
    · refine lv_iload_n hx hb dX10_shelf_16 rfl (lv_at hl 2 rfl) ?_
      refine lv_if_ne (tgt := 31) hx hb dX10_shelf_17 (by decide) (fun c_3 => ?_) (fun c_3 => ?_)
      · refine lv_iload_n hx hb dX10_shelf_31 rfl (lv_at hl 2 rfl) ?_
        refine lv_iconst (v := 1) hx hb dX10_shelf_32 (by decide) ?_
        refine lv_icmp_ne (tgt := 45) hx hb dX10_shelf_33 (by decide) (fun c_4 => ?_) (fun c_4 => ?_)
        · refine lv_aload_n hx hb dX10_shelf_45 rfl (lv_at hl 0 rfl) ?_
          refine rg hf hk hw hinX10 0 rfl rfl 10 (by decide) w_0 rfl dX10_shelf_46 ?_
          refine lv_iload_n hx hb dX10_shelf_49 rfl (lv_at hl 1 rfl) ?_
          refine lv_tope (y := nI (ix shelf)) hs.1 ?_
          refine lv_iload_n hx hb dX10_shelf_50 rfl (lv_at hl 2 rfl) ?_
          refine rsj hf hk hw 2 rfl (j := ix shelf) (vp_in_nI (by omega) (by omega)) (nI_clamp (by omega)) dX10_shelf_51 (W' := [cob lh 10 [.ref ak, .ref t, .ref yt, .ref xt, .int isk, .ref ltp, .ref lrw, .int (nI rc), .ref lac, .ref lsh, .ref lhh, .ref lhg, .ref lhr], cob t 8 [.ref ak, .ref tl, .ref tf, .ref ta, .ref tk, .ref tg, .ref tp, .ref tm, .int (nI cnt), .int (nI stp), .int z], cin g lhh 4 (upd shh (ix shelf) what), cin g lhg 4 shg, cit g lsh 4 sht, cit g lhr 4 shr, cob ia 3 [.int iso, .ref iv]]) rfl (fun H locs hw => ?_)
          refine lv_aload_n hx hb dX10_shelf_52 rfl (lv_at hl 0 rfl) ?_
          refine rg hf hk hw hinX10 0 rfl rfl 11 (by decide) w_1 rfl dX10_shelf_53 ?_
          refine lv_iload_n hx hb dX10_shelf_56 rfl (lv_at hl 1 rfl) ?_
          refine lv_tope (y := nI (ix shelf)) hs.1 ?_
          refine lv_iload_n hx hb dX10_shelf_57 rfl (lv_at hl 2 rfl) ?_
          refine lv_if_ne (tgt := 65) hx hb dX10_shelf_58 (by decide) (fun _ => ?_) (fun q => absurd q (c_3))
          refine lv_iconst (v := 0) hx hb dX10_shelf_65 (by decide) ?_
          refine rsj hf hk hw 3 rfl (j := ix shelf) (vp_in_nI (by omega) (by omega)) (nI_clamp (by omega)) dX10_shelf_66 (W' := [cob lh 10 [.ref ak, .ref t, .ref yt, .ref xt, .int isk, .ref ltp, .ref lrw, .int (nI rc), .ref lac, .ref lsh, .ref lhh, .ref lhg, .ref lhr], cob t 8 [.ref ak, .ref tl, .ref tf, .ref ta, .ref tk, .ref tg, .ref tp, .ref tm, .int (nI cnt), .int (nI stp), .int z], cin g lhh 4 (upd shh (ix shelf) what), cin g lhg 4 (upd shg (ix shelf) 0), cit g lsh 4 sht, cit g lhr 4 shr, cob ia 3 [.int iso, .ref iv]]) rfl (fun H locs hw => ?_)
          refine lv_aload_n hx hb dX10_shelf_67 rfl (lv_at hl 0 rfl) ?_
          refine rg hf hk hw hinX10 0 rfl rfl 12 (by decide) w_2 rfl dX10_shelf_68 ?_
          refine lv_iload_n hx hb dX10_shelf_71 rfl (lv_at hl 1 rfl) ?_
          refine lv_tope (y := nI (ix shelf)) hs.1 ?_
          refine lv_iload_n hx hb dX10_shelf_72 rfl (lv_at hl 2 rfl) ?_
          refine lv_iconst (v := 1) hx hb dX10_shelf_73 (by decide) ?_
          refine lv_icmp_ne (tgt := 86) hx hb dX10_shelf_74 (by decide) (fun _ => ?_) (fun q => absurd q (c_4))
          refine lv_null hx hb dX10_shelf_86 ?_
          refine rqn hf hk hw 5 rfl (j := ix shelf) (vp_in_nI (by omega) (by omega)) (nI_clamp (by omega)) dX10_shelf_87 (W' := [cob lh 10 [.ref ak, .ref t, .ref yt, .ref xt, .int isk, .ref ltp, .ref lrw, .int (nI rc), .ref lac, .ref lsh, .ref lhh, .ref lhg, .ref lhr], cob t 8 [.ref ak, .ref tl, .ref tf, .ref ta, .ref tk, .ref tg, .ref tp, .ref tm, .int (nI cnt), .int (nI stp), .int z], cin g lhh 4 (upd shh (ix shelf) what), cin g lhg 4 (upd shg (ix shelf) 0), cit g lsh 4 sht, cit g lhr 4 (va_up shr (ix shelf) none), cob ia 3 [.int iso, .ref iv]]) rfl (fun H locs hw => ?_)
          refine lv_iconst (v := 1) hx hb dX10_shelf_88 (by decide) ?_
          exact rE_i hf hr hlk hw ⟨congrArg some (by simp only [f_X10_shelf, if_pos c_1, if_pos c_2, if_neg c_3, if_neg c_4]), by simp only [f_X10_shelf_w1, f_X10_shelf_w2, f_X10_shelf_w3, if_pos c_1, if_pos c_2, if_neg c_3, if_neg c_4]⟩ (show ([lh, t, lhh, lhg, lsh, lhr, ia] : List Nat) = [lh, t, lhh, lhg, lsh, lhr, ia] from rfl) dX10_shelf_89
        · refine lv_iload_n hx hb dX10_shelf_36 rfl (lv_at hl 3 rfl) ?_
          refine mcS hf hk hst hw (c_X10_isNoSheet l g n) (va_cwS 1 hts gX10_shelf_X10_isNoSheet rfl rfl rfl hdS_X10_isNoSheet ⟨Nat.le_of_ble_eq_true rfl, Nat.le_of_ble_eq_true rfl⟩) [] rfl rfl rfl hl.1 rfl (Nat.le_of_ble_eq_true rfl) dX10_shelf_37 ⟨Nat.zero_le _, Nat.zero_le _⟩ (W' := [cob lh 10 [.ref ak, .ref t, .ref yt, .ref xt, .int isk, .ref ltp, .ref lrw, .int (nI rc), .ref lac, .ref lsh, .ref lhh, .ref lhg, .ref lhr], cob t 8 [.ref ak, .ref tl, .ref tf, .ref ta, .ref tk, .ref tg, .ref tp, .ref tm, .int (nI cnt), .int (nI stp), .int z], cin g lhh 4 shh, cin g lhg 4 shg, cit g lsh 4 sht, cit g lhr 4 shr, cob ia 3 [.int iso, .ref iv]]) rfl (fun H locs hw => ?_)
          refine lv_if_eq (tgt := 45) hx hb dX10_shelf_40 (by decide) (fun c_5 => ?_) (fun c_5 => ?_)
          · have hn := out_n (N := 3) (by decide) c_5
            have hn2 := hn.2
            refine lv_aload_n hx hb dX10_shelf_45 rfl (lv_at hl 0 rfl) ?_
            refine rg hf hk hw hinX10 0 rfl rfl 10 (by decide) w_0 rfl dX10_shelf_46 ?_
            refine lv_iload_n hx hb dX10_shelf_49 rfl (lv_at hl 1 rfl) ?_
            refine lv_tope (y := nI (ix shelf)) hs.1 ?_
            refine lv_iload_n hx hb dX10_shelf_50 rfl (lv_at hl 2 rfl) ?_
            refine rsj hf hk hw 2 rfl (j := ix shelf) (vp_in_nI (by omega) (by omega)) (nI_clamp (by omega)) dX10_shelf_51 (W' := [cob lh 10 [.ref ak, .ref t, .ref yt, .ref xt, .int isk, .ref ltp, .ref lrw, .int (nI rc), .ref lac, .ref lsh, .ref lhh, .ref lhg, .ref lhr], cob t 8 [.ref ak, .ref tl, .ref tf, .ref ta, .ref tk, .ref tg, .ref tp, .ref tm, .int (nI cnt), .int (nI stp), .int z], cin g lhh 4 (upd shh (ix shelf) what), cin g lhg 4 shg, cit g lsh 4 sht, cit g lhr 4 shr, cob ia 3 [.int iso, .ref iv]]) rfl (fun H locs hw => ?_)
            refine lv_aload_n hx hb dX10_shelf_52 rfl (lv_at hl 0 rfl) ?_
            refine rg hf hk hw hinX10 0 rfl rfl 11 (by decide) w_1 rfl dX10_shelf_53 ?_
            refine lv_iload_n hx hb dX10_shelf_56 rfl (lv_at hl 1 rfl) ?_
            refine lv_tope (y := nI (ix shelf)) hs.1 ?_
            refine lv_iload_n hx hb dX10_shelf_57 rfl (lv_at hl 2 rfl) ?_
            refine lv_if_ne (tgt := 65) hx hb dX10_shelf_58 (by decide) (fun _ => ?_) (fun q => absurd q (c_3))
            refine lv_iconst (v := 0) hx hb dX10_shelf_65 (by decide) ?_
            refine rsj hf hk hw 3 rfl (j := ix shelf) (vp_in_nI (by omega) (by omega)) (nI_clamp (by omega)) dX10_shelf_66 (W' := [cob lh 10 [.ref ak, .ref t, .ref yt, .ref xt, .int isk, .ref ltp, .ref lrw, .int (nI rc), .ref lac, .ref lsh, .ref lhh, .ref lhg, .ref lhr], cob t 8 [.ref ak, .ref tl, .ref tf, .ref ta, .ref tk, .ref tg, .ref tp, .ref tm, .int (nI cnt), .int (nI stp), .int z], cin g lhh 4 (upd shh (ix shelf) what), cin g lhg 4 (upd shg (ix shelf) 0), cit g lsh 4 sht, cit g lhr 4 shr, cob ia 3 [.int iso, .ref iv]]) rfl (fun H locs hw => ?_)
            refine lv_aload_n hx hb dX10_shelf_67 rfl (lv_at hl 0 rfl) ?_
            refine rg hf hk hw hinX10 0 rfl rfl 12 (by decide) w_2 rfl dX10_shelf_68 ?_
            refine lv_iload_n hx hb dX10_shelf_71 rfl (lv_at hl 1 rfl) ?_
            refine lv_tope (y := nI (ix shelf)) hs.1 ?_
            refine lv_iload_n hx hb dX10_shelf_72 rfl (lv_at hl 2 rfl) ?_
            refine lv_iconst (v := 1) hx hb dX10_shelf_73 (by decide) ?_
            refine lv_icmp_ne (tgt := 86) hx hb dX10_shelf_74 (by decide) (fun q => absurd (c_4) q) (fun _ => ?_)
            refine lv_aload_n hx hb dX10_shelf_77 rfl (lv_at hl 0 rfl) ?_
            refine rg hf hk hw hinX10 0 rfl rfl 9 (by decide) w_3 rfl dX10_shelf_78 ?_
            refine lv_iload_n hx hb dX10_shelf_81 rfl (lv_at hl 3 rfl) ?_
            refine lv_tope (y := nI (ix n)) hn.1 ?_
            refine rqj hf hk hw 4 rfl (j := ix n) (r := some ia) (vp_in_nI (by omega) (by omega)) (nI_clamp (by omega)) (hso) dX10_shelf_82 ?_
            refine lv_goto (tgt := 87) hx hb dX10_shelf_83 (by decide) ?_
            refine rqs hf hk hw 5 6 rfl rfl (j := ix shelf) (vp_in_nI (by omega) (by omega)) (nI_clamp (by omega)) dX10_shelf_87 (W' := [cob lh 10 [.ref ak, .ref t, .ref yt, .ref xt, .int isk, .ref ltp, .ref lrw, .int (nI rc), .ref lac, .ref lsh, .ref lhh, .ref lhg, .ref lhr], cob t 8 [.ref ak, .ref tl, .ref tf, .ref ta, .ref tk, .ref tg, .ref tp, .ref tm, .int (nI cnt), .int (nI stp), .int z], cin g lhh 4 (upd shh (ix shelf) what), cin g lhg 4 (upd shg (ix shelf) 0), cit g lsh 4 sht, cit g lhr 4 (va_up shr (ix shelf) (some ia)), cob ia 3 [.int iso, .ref iv]]) rfl (fun H locs hw => ?_)
            refine lv_iconst (v := 1) hx hb dX10_shelf_88 (by decide) ?_
            exact rE_i hf hr hlk hw ⟨congrArg some (by simp only [f_X10_shelf, if_pos c_1, if_pos c_2, if_neg c_3, if_pos c_4, if_pos c_5]), by simp only [f_X10_shelf_w1, f_X10_shelf_w2, f_X10_shelf_w3, if_pos c_1, if_pos c_2, if_neg c_3, if_pos c_4, if_pos c_5]⟩ (show ([lh, t, lhh, lhg, lsh, lhr, ia] : List Nat) = [lh, t, lhh, lhg, lsh, lhr, ia] from rfl) dX10_shelf_89
          · refine lv_iconst (v := (-1)) hx hb dX10_shelf_43 (by decide) ?_
            exact rE_i hf hr hlk hw ⟨congrArg some (by simp only [f_X10_shelf, if_pos c_1, if_pos c_2, if_neg c_3, if_pos c_4, if_neg c_5]), by simp only [f_X10_shelf_w1, f_X10_shelf_w2, f_X10_shelf_w3, if_pos c_1, if_pos c_2, if_neg c_3, if_pos c_4, if_neg c_5]⟩ (show ([lh, t, lhh, lhg, lsh, lhr, ia] : List Nat) = [lh, t, lhh, lhg, lsh, lhr, ia] from rfl) dX10_shelf_44
      · refine lv_aload_n hx hb dX10_shelf_20 rfl (lv_at hl 0 rfl) ?_
        refine rg hf hk hw hinX10 0 rfl rfl 1 (by decide) w_4 rfl dX10_shelf_21 ?_
        refine lv_iload_n hx hb dX10_shelf_24 rfl (lv_at hl 3 rfl) ?_
        refine mcV hf hk hst hw (c_X8_has l g t tl tf ta tk tg tp tm cnt stp z ak n) (cwV 1 hts gX10_shelf_X8_has rfl rfl rfl hdV_X8_has ⟨Nat.le_of_ble_eq_true rfl, Nat.le_of_ble_eq_true rfl⟩) [1] rfl rfl 1 rfl rfl rfl hl.1 rfl (Nat.le_of_ble_eq_true rfl) dX10_shelf_25 ⟨Nat.zero_le _, Nat.zero_le _⟩ (W' := [cob lh 10 [.ref ak, .ref t, .ref yt, .ref xt, .int isk, .ref ltp, .ref lrw, .int (nI rc), .ref lac, .ref lsh, .ref lhh, .ref lhg, .ref lhr], cob t 8 [.ref ak, .ref tl, .ref tf, .ref ta, .ref tk, .ref tg, .ref tp, .ref tm, .int (nI cnt), .int (nI stp), .int z], cin g lhh 4 shh, cin g lhg 4 shg, cit g lsh 4 sht, cit g lhr 4 shr, cob ia 3 [.int iso, .ref iv]]) rfl (fun H locs hw => ?_)
        refine lv_if_eq (tgt := 43) hx hb dX10_shelf_28 (by decide) (fun c_6 => ?_) (fun c_6 => ?_)
        · refine lv_iconst (v := (-1)) hx hb dX10_shelf_43 (by decide) ?_
          exact rE_i hf hr hlk hw ⟨congrArg some (by simp only [f_X10_shelf, if_pos c_1, if_pos c_2, if_pos c_3, if_pos c_6]), by simp only [f_X10_shelf_w1, f_X10_shelf_w2, f_X10_shelf_w3, if_pos c_1, if_pos c_2, if_pos c_3, if_pos c_6]⟩ (show ([lh, t, lhh, lhg, lsh, lhr, ia] : List Nat) = [lh, t, lhh, lhg, lsh, lhr, ia] from rfl) dX10_shelf_44
        · refine lv_iload_n hx hb dX10_shelf_31 rfl (lv_at hl 2 rfl) ?_
          refine lv_iconst (v := 1) hx hb dX10_shelf_32 (by decide) ?_
          refine lv_icmp_ne (tgt := 45) hx hb dX10_shelf_33 (by decide) (fun c_7 => ?_) (fun c_7 => ?_)
          · refine lv_aload_n hx hb dX10_shelf_45 rfl (lv_at hl 0 rfl) ?_
            refine rg hf hk hw hinX10 0 rfl rfl 10 (by decide) w_0 rfl dX10_shelf_46 ?_
            refine lv_iload_n hx hb dX10_shelf_49 rfl (lv_at hl 1 rfl) ?_
            refine lv_tope (y := nI (ix shelf)) hs.1 ?_
            refine lv_iload_n hx hb dX10_shelf_50 rfl (lv_at hl 2 rfl) ?_
            refine rsj hf hk hw 2 rfl (j := ix shelf) (vp_in_nI (by omega) (by omega)) (nI_clamp (by omega)) dX10_shelf_51 (W' := [cob lh 10 [.ref ak, .ref t, .ref yt, .ref xt, .int isk, .ref ltp, .ref lrw, .int (nI rc), .ref lac, .ref lsh, .ref lhh, .ref lhg, .ref lhr], cob t 8 [.ref ak, .ref tl, .ref tf, .ref ta, .ref tk, .ref tg, .ref tp, .ref tm, .int (nI cnt), .int (nI stp), .int z], cin g lhh 4 (upd shh (ix shelf) what), cin g lhg 4 shg, cit g lsh 4 sht, cit g lhr 4 shr, cob ia 3 [.int iso, .ref iv]]) rfl (fun H locs hw => ?_)
            refine lv_aload_n hx hb dX10_shelf_52 rfl (lv_at hl 0 rfl) ?_
            refine rg hf hk hw hinX10 0 rfl rfl 11 (by decide) w_1 rfl dX10_shelf_53 ?_
            refine lv_iload_n hx hb dX10_shelf_56 rfl (lv_at hl 1 rfl) ?_
            refine lv_tope (y := nI (ix shelf)) hs.1 ?_
            refine lv_iload_n hx hb dX10_shelf_57 rfl (lv_at hl 2 rfl) ?_
            refine lv_if_ne (tgt := 65) hx hb dX10_shelf_58 (by decide) (fun q => absurd (c_3) q) (fun _ => ?_)
            refine lv_iload_n hx hb dX10_shelf_61 rfl (lv_at hl 3 rfl) ?_
            refine lv_goto (tgt := 66) hx hb dX10_shelf_62 (by decide) ?_
            refine rsj hf hk hw 3 rfl (j := ix shelf) (vp_in_nI (by omega) (by omega)) (nI_clamp (by omega)) dX10_shelf_66 (W' := [cob lh 10 [.ref ak, .ref t, .ref yt, .ref xt, .int isk, .ref ltp, .ref lrw, .int (nI rc), .ref lac, .ref lsh, .ref lhh, .ref lhg, .ref lhr], cob t 8 [.ref ak, .ref tl, .ref tf, .ref ta, .ref tk, .ref tg, .ref tp, .ref tm, .int (nI cnt), .int (nI stp), .int z], cin g lhh 4 (upd shh (ix shelf) what), cin g lhg 4 (upd shg (ix shelf) n), cit g lsh 4 sht, cit g lhr 4 shr, cob ia 3 [.int iso, .ref iv]]) rfl (fun H locs hw => ?_)
            refine lv_aload_n hx hb dX10_shelf_67 rfl (lv_at hl 0 rfl) ?_
            refine rg hf hk hw hinX10 0 rfl rfl 12 (by decide) w_2 rfl dX10_shelf_68 ?_
            refine lv_iload_n hx hb dX10_shelf_71 rfl (lv_at hl 1 rfl) ?_
            refine lv_tope (y := nI (ix shelf)) hs.1 ?_
            refine lv_iload_n hx hb dX10_shelf_72 rfl (lv_at hl 2 rfl) ?_
            refine lv_iconst (v := 1) hx hb dX10_shelf_73 (by decide) ?_
            refine lv_icmp_ne (tgt := 86) hx hb dX10_shelf_74 (by decide) (fun _ => ?_) (fun q => absurd q (c_7))
            refine lv_null hx hb dX10_shelf_86 ?_
            refine rqn hf hk hw 5 rfl (j := ix shelf) (vp_in_nI (by omega) (by omega)) (nI_clamp (by omega)) dX10_shelf_87 (W' := [cob lh 10 [.ref ak, .ref t, .ref yt, .ref xt, .int isk, .ref ltp, .ref lrw, .int (nI rc), .ref lac, .ref lsh, .ref lhh, .ref lhg, .ref lhr], cob t 8 [.ref ak, .ref tl, .ref tf, .ref ta, .ref tk, .ref tg, .ref tp, .ref tm, .int (nI cnt), .int (nI stp), .int z], cin g lhh 4 (upd shh (ix shelf) what), cin g lhg 4 (upd shg (ix shelf) n), cit g lsh 4 sht, cit g lhr 4 (va_up shr (ix shelf) none), cob ia 3 [.int iso, .ref iv]]) rfl (fun H locs hw => ?_)
            refine lv_iconst (v := 1) hx hb dX10_shelf_88 (by decide) ?_
            exact rE_i hf hr hlk hw ⟨congrArg some (by simp only [f_X10_shelf, if_pos c_1, if_pos c_2, if_pos c_3, if_neg c_6, if_neg c_7]), by simp only [f_X10_shelf_w1, f_X10_shelf_w2, f_X10_shelf_w3, if_pos c_1, if_pos c_2, if_pos c_3, if_neg c_6, if_neg c_7]⟩ (show ([lh, t, lhh, lhg, lsh, lhr, ia] : List Nat) = [lh, t, lhh, lhg, lsh, lhr, ia] from rfl) dX10_shelf_89
          · refine lv_iload_n hx hb dX10_shelf_36 rfl (lv_at hl 3 rfl) ?_
            refine mcS hf hk hst hw (c_X10_isNoSheet l g n) (va_cwS 1 hts gX10_shelf_X10_isNoSheet rfl rfl rfl hdS_X10_isNoSheet ⟨Nat.le_of_ble_eq_true rfl, Nat.le_of_ble_eq_true rfl⟩) [] rfl rfl rfl hl.1 rfl (Nat.le_of_ble_eq_true rfl) dX10_shelf_37 ⟨Nat.zero_le _, Nat.zero_le _⟩ (W' := [cob lh 10 [.ref ak, .ref t, .ref yt, .ref xt, .int isk, .ref ltp, .ref lrw, .int (nI rc), .ref lac, .ref lsh, .ref lhh, .ref lhg, .ref lhr], cob t 8 [.ref ak, .ref tl, .ref tf, .ref ta, .ref tk, .ref tg, .ref tp, .ref tm, .int (nI cnt), .int (nI stp), .int z], cin g lhh 4 shh, cin g lhg 4 shg, cit g lsh 4 sht, cit g lhr 4 shr, cob ia 3 [.int iso, .ref iv]]) rfl (fun H locs hw => ?_)
            refine lv_if_eq (tgt := 45) hx hb dX10_shelf_40 (by decide) (fun c_8 => ?_) (fun c_8 => ?_)
            · have hn := out_n (N := 3) (by decide) c_8
              have hn2 := hn.2
              refine lv_aload_n hx hb dX10_shelf_45 rfl (lv_at hl 0 rfl) ?_
              refine rg hf hk hw hinX10 0 rfl rfl 10 (by decide) w_0 rfl dX10_shelf_46 ?_
              refine lv_iload_n hx hb dX10_shelf_49 rfl (lv_at hl 1 rfl) ?_
              refine lv_tope (y := nI (ix shelf)) hs.1 ?_
              refine lv_iload_n hx hb dX10_shelf_50 rfl (lv_at hl 2 rfl) ?_
              refine rsj hf hk hw 2 rfl (j := ix shelf) (vp_in_nI (by omega) (by omega)) (nI_clamp (by omega)) dX10_shelf_51 (W' := [cob lh 10 [.ref ak, .ref t, .ref yt, .ref xt, .int isk, .ref ltp, .ref lrw, .int (nI rc), .ref lac, .ref lsh, .ref lhh, .ref lhg, .ref lhr], cob t 8 [.ref ak, .ref tl, .ref tf, .ref ta, .ref tk, .ref tg, .ref tp, .ref tm, .int (nI cnt), .int (nI stp), .int z], cin g lhh 4 (upd shh (ix shelf) what), cin g lhg 4 shg, cit g lsh 4 sht, cit g lhr 4 shr, cob ia 3 [.int iso, .ref iv]]) rfl (fun H locs hw => ?_)
              refine lv_aload_n hx hb dX10_shelf_52 rfl (lv_at hl 0 rfl) ?_
              refine rg hf hk hw hinX10 0 rfl rfl 11 (by decide) w_1 rfl dX10_shelf_53 ?_
              refine lv_iload_n hx hb dX10_shelf_56 rfl (lv_at hl 1 rfl) ?_
              refine lv_tope (y := nI (ix shelf)) hs.1 ?_
              refine lv_iload_n hx hb dX10_shelf_57 rfl (lv_at hl 2 rfl) ?_
              refine lv_if_ne (tgt := 65) hx hb dX10_shelf_58 (by decide) (fun q => absurd (c_3) q) (fun _ => ?_)
              refine lv_iload_n hx hb dX10_shelf_61 rfl (lv_at hl 3 rfl) ?_
              refine lv_tope (y := nI (ix n)) hn.1 ?_
              refine lv_goto (tgt := 66) hx hb dX10_shelf_62 (by decide) ?_
              refine rsj hf hk hw 3 rfl (j := ix shelf) (vp_in_nI (by omega) (by omega)) (nI_clamp (by omega)) dX10_shelf_66 (W' := [cob lh 10 [.ref ak, .ref t, .ref yt, .ref xt, .int isk, .ref ltp, .ref lrw, .int (nI rc), .ref lac, .ref lsh, .ref lhh, .ref lhg, .ref lhr], cob t 8 [.ref ak, .ref tl, .ref tf, .ref ta, .ref tk, .ref tg, .ref tp, .ref tm, .int (nI cnt), .int (nI stp), .int z], cin g lhh 4 (upd shh (ix shelf) what), cin g lhg 4 (upd shg (ix shelf) (nI (ix n))), cit g lsh 4 sht, cit g lhr 4 shr, cob ia 3 [.int iso, .ref iv]]) rfl (fun H locs hw => ?_)
              refine lv_aload_n hx hb dX10_shelf_67 rfl (lv_at hl 0 rfl) ?_
              refine rg hf hk hw hinX10 0 rfl rfl 12 (by decide) w_2 rfl dX10_shelf_68 ?_
              refine lv_iload_n hx hb dX10_shelf_71 rfl (lv_at hl 1 rfl) ?_
              refine lv_tope (y := nI (ix shelf)) hs.1 ?_
              refine lv_iload_n hx hb dX10_shelf_72 rfl (lv_at hl 2 rfl) ?_
              refine lv_iconst (v := 1) hx hb dX10_shelf_73 (by decide) ?_
              refine lv_icmp_ne (tgt := 86) hx hb dX10_shelf_74 (by decide) (fun q => absurd (c_7) q) (fun _ => ?_)
              refine lv_aload_n hx hb dX10_shelf_77 rfl (lv_at hl 0 rfl) ?_
              refine rg hf hk hw hinX10 0 rfl rfl 9 (by decide) w_3 rfl dX10_shelf_78 ?_
              refine lv_iload_n hx hb dX10_shelf_81 rfl (lv_at hl 3 rfl) ?_
              refine lv_tope (y := nI (ix n)) hn.1 ?_
              refine rqj hf hk hw 4 rfl (j := ix n) (r := some ia) (vp_in_nI (by omega) (by omega)) (nI_clamp (by omega)) (hso) dX10_shelf_82 ?_
              refine lv_goto (tgt := 87) hx hb dX10_shelf_83 (by decide) ?_
              refine rqs hf hk hw 5 6 rfl rfl (j := ix shelf) (vp_in_nI (by omega) (by omega)) (nI_clamp (by omega)) dX10_shelf_87 (W' := [cob lh 10 [.ref ak, .ref t, .ref yt, .ref xt, .int isk, .ref ltp, .ref lrw, .int (nI rc), .ref lac, .ref lsh, .ref lhh, .ref lhg, .ref lhr], cob t 8 [.ref ak, .ref tl, .ref tf, .ref ta, .ref tk, .ref tg, .ref tp, .ref tm, .int (nI cnt), .int (nI stp), .int z], cin g lhh 4 (upd shh (ix shelf) what), cin g lhg 4 (upd shg (ix shelf) (nI (ix n))), cit g lsh 4 sht, cit g lhr 4 (va_up shr (ix shelf) (some ia)), cob ia 3 [.int iso, .ref iv]]) rfl (fun H locs hw => ?_)
              refine lv_iconst (v := 1) hx hb dX10_shelf_88 (by decide) ?_
              exact rE_i hf hr hlk hw ⟨congrArg some (by simp only [f_X10_shelf, if_pos c_1, if_pos c_2, if_pos c_3, if_neg c_6, if_pos c_7, if_pos c_8]), by simp only [f_X10_shelf_w1, f_X10_shelf_w2, f_X10_shelf_w3, if_pos c_1, if_pos c_2, if_pos c_3, if_neg c_6, if_pos c_7, if_pos c_8]⟩ (show ([lh, t, lhh, lhg, lsh, lhr, ia] : List Nat) = [lh, t, lhh, lhg, lsh, lhr, ia] from rfl) dX10_shelf_89
            · refine lv_iconst (v := (-1)) hx hb dX10_shelf_43 (by decide) ?_
              exact rE_i hf hr hlk hw ⟨congrArg some (by simp only [f_X10_shelf, if_pos c_1, if_pos c_2, if_pos c_3, if_neg c_6, if_pos c_7, if_neg c_8]), by simp only [f_X10_shelf_w1, f_X10_shelf_w2, f_X10_shelf_w3, if_pos c_1, if_pos c_2, if_pos c_3, if_neg c_6, if_pos c_7, if_neg c_8]⟩ (show ([lh, t, lhh, lhg, lsh, lhr, ia] : List Nat) = [lh, t, lhh, lhg, lsh, lhr, ia] from rfl) dX10_shelf_44
def f_X10_minds_n (cnt : Nat) (sheet : Int32) (goer : Int32) (n : Int32) : Int32 := if (f_X10_isOutside sheet 0 3) = 0 then (if (f_X8_has cnt goer) = 0 then (-1) else (if (f_X10_isOutside n 0 8) = 0 then (if (nI (ix n)) ≤ (nI (cnt - ix goer)) then (-11) else (-1)) else (-1))) else (-1)
abbrev rmX10_minds_n : Room := { frames := 2, cells := 0, slots := 0, locals := 42 }
set_option maxHeartbeats 4000000 in
set_option maxRecDepth 100000 in
theorem c_X10_minds_n (l : Launch) (g : GG) (lh : Nat) (t : Nat) (tl : Nat) (tf : Nat) (ta : Nat) (tk : Nat) (tg : Nat) (tp : Nat) (tm : Nat) (faiths : Nat → Int32) (cnt : Nat) (stp : Nat) (z : Int32) (xt : Nat) (yt : Nat) (ak : Nat) (isk : Int32) (ltp : Nat) (lrw : Nat) (rc : Nat) (lac : Nat) (lsh : Nat) (lhh : Nat) (lhg : Nat) (lhr : Nat) (sheet : Int32) (i_ : Int32) (goer : Int32) (n : Int32) (sht : Nat → Option Nat) (hc8 : cnt ≤ 8) (hso : sht (ix sheet) = none) : mtR l g yX10_minds wsX10_minds rmX10_minds_n [.ref lh, .int sheet, .int i_, .int goer, .int n] [cob lh 10 [.ref ak, .ref t, .ref yt, .ref xt, .int isk, .ref ltp, .ref lrw, .int (nI rc), .ref lac, .ref lsh, .ref lhh, .ref lhg, .ref lhr], cob t 8 [.ref ak, .ref tl, .ref tf, .ref ta, .ref tk, .ref tg, .ref tp, .ref tm, .int (nI cnt), .int (nI stp), .int z], cin g tg 8 faiths, cit g lsh 4 sht] (fun rv W => rv = (some (.int (f_X10_minds_n cnt sheet goer n))) ∧ W = [cob lh 10 [.ref ak, .ref t, .ref yt, .ref xt, .int isk, .ref ltp, .ref lrw, .int (nI rc), .ref lac, .ref lsh, .ref lhh, .ref lhg, .ref lhr], cob t 8 [.ref ak, .ref tl, .ref tf, .ref ta, .ref tk, .ref tg, .ref tp, .ref tm, .int (nI cnt), .int (nI stp), .int z], cin g tg 8 faiths, cit g lsh 4 sht]) := by
  refine mtR.of (cc := cX10_minds) (nL := 7) (ret := (some .int)) (own := RX10) (by decide +kernel) rfl rfl (Nat.le_of_ble_eq_true rfl) (fun p e s m below meth c hf hr hlk _ hk hst hw ls hl => ?_)
  have hx := hf.1
  have hb := hf.2.1
  have hts := hf.2.2.2.2
  have hl : lv_has ls 7 [(0, .ref lh), (1, .int sheet), (2, .int i_), (3, .int goer), (4, .int n)] := hl
  have hinX10 : ∀ w ∈ u_ws RX10 TX10 13, w ∈ wsX10_minds := fun w h => List.mem_cons_of_mem _ (List.mem_append_left _ (List.mem_append_left _ (List.mem_append_right _ h)))
  have w_0 : Cond.fieldLink RX10 36 "LightMan" "now" "LLightMan$Tunnel;" ∈ wsX10_minds := List.mem_of_getElem? (i := 1) rfl
  have hinX8 : ∀ w ∈ u_ws RX8 TX8 11, w ∈ wsX10_minds := fun w h => List.mem_cons_of_mem _ (List.mem_append_left _ (List.mem_append_right _ h))
  have w_1 : Cond.fieldLink RX10 109 "LightMan$Tunnel" "count" "I" ∈ wsX10_minds := List.mem_of_getElem? (i := 2) rfl
  have w_2 : Cond.fieldLink RX10 74 "LightMan" "sheets" "[LLightMan$Items;" ∈ wsX10_minds := List.mem_of_getElem? (i := 3) rfl
  refine lv_iload_n hx hb dX10_minds_0 rfl (lv_at hl 1 rfl) ?_
  refine mcS hf hk hst hw (c_X10_isNoSheet l g sheet) (va_cwS 1 hts gX10_minds_X10_isNoSheet rfl rfl rfl hdS_X10_isNoSheet ⟨Nat.le_of_ble_eq_true rfl, Nat.le_of_ble_eq_true rfl⟩) [] rfl rfl rfl hl.1 rfl (Nat.le_of_ble_eq_true rfl) dX10_minds_1 ⟨Nat.zero_le _, Nat.zero_le _⟩ (W' := [cob lh 10 [.ref ak, .ref t, .ref yt, .ref xt, .int isk, .ref ltp, .ref lrw, .int (nI rc), .ref lac, .ref lsh, .ref lhh, .ref lhg, .ref lhr], cob t 8 [.ref ak, .ref tl, .ref tf, .ref ta, .ref tk, .ref tg, .ref tp, .ref tm, .int (nI cnt), .int (nI stp), .int z], cin g tg 8 faiths, cit g lsh 4 sht]) rfl (fun H locs hw => ?_)
  refine lv_if_ne (tgt := 43) hx hb dX10_minds_4 (by decide) (fun c_1 => ?_) (fun c_1 => ?_)
  · refine lv_iconst (v := (-1)) hx hb dX10_minds_43 (by decide) ?_
    exact rE_i hf hr hlk hw ⟨congrArg some (by simp only [f_X10_minds_n, if_neg c_1]), rfl⟩ (show ([lh, t, tg, lsh] : List Nat) = [lh, t, tg, lsh] from rfl) dX10_minds_44
  · have hs := out_n (N := 3) (by decide) c_1
    have hs2 := hs.2
    refine lv_aload_n hx hb dX10_minds_7 rfl (lv_at hl 0 rfl) ?_
    refine rg hf hk hw hinX10 0 rfl rfl 1 (by decide) w_0 rfl dX10_minds_8 ?_
    refine lv_iload_n hx hb dX10_minds_11 rfl (lv_at hl 3 rfl) ?_
    refine mcV hf hk hst hw (c_X8_has l g t tl tf ta tk tg tp tm cnt stp z ak goer) (cwV 1 hts gX10_minds_X8_has rfl rfl rfl hdV_X8_has ⟨Nat.le_of_ble_eq_true rfl, Nat.le_of_ble_eq_true rfl⟩) [1] rfl rfl 1 rfl rfl rfl hl.1 rfl (Nat.le_of_ble_eq_true rfl) dX10_minds_12 ⟨Nat.zero_le _, Nat.zero_le _⟩ (W' := [cob lh 10 [.ref ak, .ref t, .ref yt, .ref xt, .int isk, .ref ltp, .ref lrw, .int (nI rc), .ref lac, .ref lsh, .ref lhh, .ref lhg, .ref lhr], cob t 8 [.ref ak, .ref tl, .ref tf, .ref ta, .ref tk, .ref tg, .ref tp, .ref tm, .int (nI cnt), .int (nI stp), .int z], cin g tg 8 faiths, cit g lsh 4 sht]) rfl (fun H locs hw => ?_)
    refine lv_if_eq (tgt := 43) hx hb dX10_minds_15 (by decide) (fun c_2 => ?_) (fun c_2 => ?_)
    · refine lv_iconst (v := (-1)) hx hb dX10_minds_43 (by decide) ?_
      exact rE_i hf hr hlk hw ⟨congrArg some (by simp only [f_X10_minds_n, if_pos c_1, if_pos c_2]), rfl⟩ (show ([lh, t, tg, lsh] : List Nat) = [lh, t, tg, lsh] from rfl) dX10_minds_44
    · have hg := has_n hc8 c_2
      have hg2 := hg.2
      refine lv_iload hx hb dX10_minds_18 (lv_at hl 4 rfl) ?_
      refine lv_iconst (v := 0) hx hb dX10_minds_20 (by decide) ?_
      refine lv_bipush (v := 8) hx hb dX10_minds_21 (by decide) ?_
      refine mcS hf hk hst hw (c_X10_isOutside l g n 0 8) (va_cwS 3 hts gX10_minds_X10_isOutside rfl rfl rfl hdS_X10_isOutside ⟨Nat.le_of_ble_eq_true rfl, Nat.le_of_ble_eq_true rfl⟩) [] rfl rfl rfl hl.1 rfl (Nat.le_of_ble_eq_true rfl) dX10_minds_23 ⟨Nat.zero_le _, Nat.zero_le _⟩ (W' := [cob lh 10 [.ref ak, .ref t, .ref yt, .ref xt, .int isk, .ref ltp, .ref lrw, .int (nI rc), .ref lac, .ref lsh, .ref lhh, .ref lhg, .ref lhr], cob t 8 [.ref ak, .ref tl, .ref tf, .ref ta, .ref tk, .ref tg, .ref tp, .ref tm, .int (nI cnt), .int (nI stp), .int z], cin g tg 8 faiths, cit g lsh 4 sht]) rfl (fun H locs hw => ?_)
      refine lv_if_ne (tgt := 43) hx hb dX10_minds_26 (by decide) (fun c_3 => ?_) (fun c_3 => ?_)
      · refine lv_iconst (v := (-1)) hx hb dX10_minds_43 (by decide) ?_
        exact rE_i hf hr hlk hw ⟨congrArg some (by simp only [f_X10_minds_n, if_pos c_1, if_neg c_2, if_neg c_3]), rfl⟩ (show ([lh, t, tg, lsh] : List Nat) = [lh, t, tg, lsh] from rfl) dX10_minds_44
      · have hn := out_n (N := 8) (by decide) c_3
        have hn2 := hn.2
        refine lv_iload hx hb dX10_minds_29 (lv_at hl 4 rfl) ?_
        refine lv_tope (y := nI (ix n)) hn.1 ?_
        refine lv_aload_n hx hb dX10_minds_31 rfl (lv_at hl 0 rfl) ?_
        refine rg hf hk hw hinX10 0 rfl rfl 1 (by decide) w_0 rfl dX10_minds_32 ?_
        refine rg hf hk hw hinX8 1 rfl rfl 8 (by decide) w_1 rfl dX10_minds_35 ?_
        refine lv_iload_n hx hb dX10_minds_38 rfl (lv_at hl 3 rfl) ?_
        refine lv_tope (y := nI (ix goer)) hg.1 ?_
        refine lv_isub hx hb dX10_minds_39 ?_
        refine lv_tope (y := nI (cnt - ix goer)) (pk_sub (Nat.le_of_lt hg2)) ?_
        refine lv_icmp_le (tgt := 45) hx hb dX10_minds_40 (by decide) (fun c_4 => ?_) (fun c_4 => ?_)
        · have hnc : ix n ≤ cnt - ix goer := (nI_leI (by omega) (by omega)).mp c_4
          refine lv_aload_n hx hb dX10_minds_45 rfl (lv_at hl 0 rfl) ?_
          refine rg hf hk hw hinX10 0 rfl rfl 9 (by decide) w_2 rfl dX10_minds_46 ?_
          refine lv_iload_n hx hb dX10_minds_49 rfl (lv_at hl 1 rfl) ?_
          refine lv_tope (y := nI (ix sheet)) hs.1 ?_
          refine rqj hf hk hw 3 rfl (j := ix sheet) (r := none) (vp_in_nI (by omega) (by omega)) (nI_clamp (by omega)) (hso) dX10_minds_50 ?_
          refine lv_astoreN (lv' := [(5, .null), (0, .ref lh), (1, .int sheet), (2, .int i_), (3, .int goer), (4, .int n)]) hx hb dX10_minds_51 hl (by decide) rfl (fun ls hl => ?_)
          refine lv_aloadN hx hb dX10_minds_53 (lv_at hl 0 rfl) ?_
          refine lv_ifnonnullN hx hb dX10_minds_55 ?_
          refine lv_bipush (v := (-11)) hx hb dX10_minds_58 (by decide) ?_
          exact rE_i hf hr hlk hw ⟨congrArg some (by simp only [f_X10_minds_n, if_pos c_1, if_neg c_2, if_pos c_3, if_pos c_4]), rfl⟩ (show ([lh, t, tg, lsh] : List Nat) = [lh, t, tg, lsh] from rfl) dX10_minds_60
        · refine lv_iconst (v := (-1)) hx hb dX10_minds_43 (by decide) ?_
          exact rE_i hf hr hlk hw ⟨congrArg some (by simp only [f_X10_minds_n, if_pos c_1, if_neg c_2, if_pos c_3, if_neg c_4]), rfl⟩ (show ([lh, t, tg, lsh] : List Nat) = [lh, t, tg, lsh] from rfl) dX10_minds_44
def f_X10_minds (cnt : Nat) (sheet : Int32) (i_ : Int32) (goer : Int32) (n : Int32) (iso : Int32) (isz : Nat) : Int32 := if (f_X10_isOutside sheet 0 3) = 0 then (if (f_X8_has cnt goer) = 0 then (-1) else (if (f_X10_isOutside n 0 8) = 0 then (if (nI (ix n)) ≤ (nI (cnt - ix goer)) then (if iso = 0 then (if (f_X10_isOutside i_ 0 (nI isz)) = 0 then (if (nI (ix n)) ≤ (nI (isz - ix i_)) then (nI (ix n)) else (-12)) else (-12)) else (-13)) else (-1)) else (-1))) else (-1)
def f_X10_minds_w1 (faiths : Nat → Int32) (cnt : Nat) (sheet : Int32) (i_ : Int32) (goer : Int32) (n : Int32) (iso : Int32) (isz : Nat) (ivs : Nat → Int32) : Nat → Int32 := if (f_X10_isOutside sheet 0 3) = 0 then (if (f_X8_has cnt goer) = 0 then faiths else (if (f_X10_isOutside n 0 8) = 0 then (if (nI (ix n)) ≤ (nI (cnt - ix goer)) then (if iso = 0 then (if (f_X10_isOutside i_ 0 (nI isz)) = 0 then (if (nI (ix n)) ≤ (nI (isz - ix i_)) then (mindF faiths ivs (ix goer) (ix i_) (ix n)) else faiths) else faiths) else faiths) else faiths) else faiths)) else faiths
abbrev rmX10_minds_s : Room := { frames := 2, cells := 0, slots := 0, locals := 42 }
set_option maxHeartbeats 4000000 in
set_option maxRecDepth 100000 in
theorem c_X10_minds_s (l : Launch) (g : GG) (lh : Nat) (t : Nat) (tl : Nat) (tf : Nat) (ta : Nat) (tk : Nat) (tg : Nat) (tp : Nat) (tm : Nat) (faiths : Nat → Int32) (cnt : Nat) (stp : Nat) (z : Int32) (xt : Nat) (yt : Nat) (ak : Nat) (isk : Int32) (ltp : Nat) (lrw : Nat) (rc : Nat) (lac : Nat) (lsh : Nat) (lhh : Nat) (lhg : Nat) (lhr : Nat) (sheet : Int32) (i_ : Int32) (goer : Int32) (n : Int32) (sht : Nat → Option Nat) (ia : Nat) (iv : Nat) (iso : Int32) (isz : Nat) (ivs : Nat → Int32) (hc8 : cnt ≤ 8) (hz40 : isz ≤ 40) (hso : sht (ix sheet) = some ia) : mtR l g yX10_minds wsX10_minds rmX10_minds_s [.ref lh, .int sheet, .int i_, .int goer, .int n] [cob lh 10 [.ref ak, .ref t, .ref yt, .ref xt, .int isk, .ref ltp, .ref lrw, .int (nI rc), .ref lac, .ref lsh, .ref lhh, .ref lhg, .ref lhr], cob t 8 [.ref ak, .ref tl, .ref tf, .ref ta, .ref tk, .ref tg, .ref tp, .ref tm, .int (nI cnt), .int (nI stp), .int z], cin g tg 8 faiths, cit g lsh 4 sht, cob ia 3 [.int iso, .ref iv], cin g iv isz ivs] (fun rv W => rv = (some (.int (f_X10_minds cnt sheet i_ goer n iso isz))) ∧ W = [cob lh 10 [.ref ak, .ref t, .ref yt, .ref xt, .int isk, .ref ltp, .ref lrw, .int (nI rc), .ref lac, .ref lsh, .ref lhh, .ref lhg, .ref lhr], cob t 8 [.ref ak, .ref tl, .ref tf, .ref ta, .ref tk, .ref tg, .ref tp, .ref tm, .int (nI cnt), .int (nI stp), .int z], cin g tg 8 (f_X10_minds_w1 faiths cnt sheet i_ goer n iso isz ivs), cit g lsh 4 sht, cob ia 3 [.int iso, .ref iv], cin g iv isz ivs]) := by
  refine mtR.of (cc := cX10_minds) (nL := 7) (ret := (some .int)) (own := RX10) (by decide +kernel) rfl rfl (Nat.le_of_ble_eq_true rfl) (fun p e s m below meth c hf hr hlk _ hk hst hw ls hl => ?_)
  have hx := hf.1
  have hb := hf.2.1
  have hts := hf.2.2.2.2
  have hl : lv_has ls 7 [(0, .ref lh), (1, .int sheet), (2, .int i_), (3, .int goer), (4, .int n)] := hl
  have hinX10 : ∀ w ∈ u_ws RX10 TX10 13, w ∈ wsX10_minds := fun w h => List.mem_cons_of_mem _ (List.mem_append_left _ (List.mem_append_left _ (List.mem_append_right _ h)))
  have w_0 : Cond.fieldLink RX10 36 "LightMan" "now" "LLightMan$Tunnel;" ∈ wsX10_minds := List.mem_of_getElem? (i := 1) rfl
  have hinX8 : ∀ w ∈ u_ws RX8 TX8 11, w ∈ wsX10_minds := fun w h => List.mem_cons_of_mem _ (List.mem_append_left _ (List.mem_append_right _ h))
  have w_1 : Cond.fieldLink RX10 109 "LightMan$Tunnel" "count" "I" ∈ wsX10_minds := List.mem_of_getElem? (i := 2) rfl
  have w_2 : Cond.fieldLink RX10 74 "LightMan" "sheets" "[LLightMan$Items;" ∈ wsX10_minds := List.mem_of_getElem? (i := 3) rfl
  have hinX3 : ∀ w ∈ u_ws RX3 TX3 2, w ∈ wsX10_minds := fun w h => List.mem_cons_of_mem _ (List.mem_append_right _ h)
  have w_3 : Cond.fieldLink RX10 260 "LightMan$Items" "sort" "I" ∈ wsX10_minds := List.mem_of_getElem? (i := 4) rfl
  have w_4 : Cond.fieldLink RX10 228 "LightMan$Items" "values" "[I" ∈ wsX10_minds := List.mem_of_getElem? (i := 5) rfl
  have w_5 : Cond.fieldLink RX10 140 "LightMan$Tunnel" "faiths" "[I" ∈ wsX10_minds := List.mem_of_getElem? (i := 6) rfl
  refine lv_iload_n hx hb dX10_minds_0 rfl (lv_at hl 1 rfl) ?_
  refine mcS hf hk hst hw (c_X10_isNoSheet l g sheet) (va_cwS 1 hts gX10_minds_X10_isNoSheet rfl rfl rfl hdS_X10_isNoSheet ⟨Nat.le_of_ble_eq_true rfl, Nat.le_of_ble_eq_true rfl⟩) [] rfl rfl rfl hl.1 rfl (Nat.le_of_ble_eq_true rfl) dX10_minds_1 ⟨Nat.zero_le _, Nat.zero_le _⟩ (W' := [cob lh 10 [.ref ak, .ref t, .ref yt, .ref xt, .int isk, .ref ltp, .ref lrw, .int (nI rc), .ref lac, .ref lsh, .ref lhh, .ref lhg, .ref lhr], cob t 8 [.ref ak, .ref tl, .ref tf, .ref ta, .ref tk, .ref tg, .ref tp, .ref tm, .int (nI cnt), .int (nI stp), .int z], cin g tg 8 faiths, cit g lsh 4 sht, cob ia 3 [.int iso, .ref iv], cin g iv isz ivs]) rfl (fun H locs hw => ?_)
  refine lv_if_ne (tgt := 43) hx hb dX10_minds_4 (by decide) (fun c_1 => ?_) (fun c_1 => ?_)
  · refine lv_iconst (v := (-1)) hx hb dX10_minds_43 (by decide) ?_
    exact rE_i hf hr hlk hw ⟨congrArg some (by simp only [f_X10_minds, if_neg c_1]), by simp only [f_X10_minds_w1, if_neg c_1]⟩ (show ([lh, t, tg, lsh, ia, iv] : List Nat) = [lh, t, tg, lsh, ia, iv] from rfl) dX10_minds_44
  · have hs := out_n (N := 3) (by decide) c_1
    have hs2 := hs.2
    refine lv_aload_n hx hb dX10_minds_7 rfl (lv_at hl 0 rfl) ?_
    refine rg hf hk hw hinX10 0 rfl rfl 1 (by decide) w_0 rfl dX10_minds_8 ?_
    refine lv_iload_n hx hb dX10_minds_11 rfl (lv_at hl 3 rfl) ?_
    refine mcV hf hk hst hw (c_X8_has l g t tl tf ta tk tg tp tm cnt stp z ak goer) (cwV 1 hts gX10_minds_X8_has rfl rfl rfl hdV_X8_has ⟨Nat.le_of_ble_eq_true rfl, Nat.le_of_ble_eq_true rfl⟩) [1] rfl rfl 1 rfl rfl rfl hl.1 rfl (Nat.le_of_ble_eq_true rfl) dX10_minds_12 ⟨Nat.zero_le _, Nat.zero_le _⟩ (W' := [cob lh 10 [.ref ak, .ref t, .ref yt, .ref xt, .int isk, .ref ltp, .ref lrw, .int (nI rc), .ref lac, .ref lsh, .ref lhh, .ref lhg, .ref lhr], cob t 8 [.ref ak, .ref tl, .ref tf, .ref ta, .ref tk, .ref tg, .ref tp, .ref tm, .int (nI cnt), .int (nI stp), .int z], cin g tg 8 faiths, cit g lsh 4 sht, cob ia 3 [.int iso, .ref iv], cin g iv isz ivs]) rfl (fun H locs hw => ?_)
    refine lv_if_eq (tgt := 43) hx hb dX10_minds_15 (by decide) (fun c_2 => ?_) (fun c_2 => ?_)
    · refine lv_iconst (v := (-1)) hx hb dX10_minds_43 (by decide) ?_
      exact rE_i hf hr hlk hw ⟨congrArg some (by simp only [f_X10_minds, if_pos c_1, if_pos c_2]), by simp only [f_X10_minds_w1, if_pos c_1, if_pos c_2]⟩ (show ([lh, t, tg, lsh, ia, iv] : List Nat) = [lh, t, tg, lsh, ia, iv] from rfl) dX10_minds_44
    · have hg := has_n hc8 c_2
      have hg2 := hg.2
      refine lv_iload hx hb dX10_minds_18 (lv_at hl 4 rfl) ?_
      refine lv_iconst (v := 0) hx hb dX10_minds_20 (by decide) ?_
      refine lv_bipush (v := 8) hx hb dX10_minds_21 (by decide) ?_
      refine mcS hf hk hst hw (c_X10_isOutside l g n 0 8) (va_cwS 3 hts gX10_minds_X10_isOutside rfl rfl rfl hdS_X10_isOutside ⟨Nat.le_of_ble_eq_true rfl, Nat.le_of_ble_eq_true rfl⟩) [] rfl rfl rfl hl.1 rfl (Nat.le_of_ble_eq_true rfl) dX10_minds_23 ⟨Nat.zero_le _, Nat.zero_le _⟩ (W' := [cob lh 10 [.ref ak, .ref t, .ref yt, .ref xt, .int isk, .ref ltp, .ref lrw, .int (nI rc), .ref lac, .ref lsh, .ref lhh, .ref lhg, .ref lhr], cob t 8 [.ref ak, .ref tl, .ref tf, .ref ta, .ref tk, .ref tg, .ref tp, .ref tm, .int (nI cnt), .int (nI stp), .int z], cin g tg 8 faiths, cit g lsh 4 sht, cob ia 3 [.int iso, .ref iv], cin g iv isz ivs]) rfl (fun H locs hw => ?_)
      refine lv_if_ne (tgt := 43) hx hb dX10_minds_26 (by decide) (fun c_3 => ?_) (fun c_3 => ?_)
      · refine lv_iconst (v := (-1)) hx hb dX10_minds_43 (by decide) ?_
        exact rE_i hf hr hlk hw ⟨congrArg some (by simp only [f_X10_minds, if_pos c_1, if_neg c_2, if_neg c_3]), by simp only [f_X10_minds_w1, if_pos c_1, if_neg c_2, if_neg c_3]⟩ (show ([lh, t, tg, lsh, ia, iv] : List Nat) = [lh, t, tg, lsh, ia, iv] from rfl) dX10_minds_44
      · have hn := out_n (N := 8) (by decide) c_3
        have hn2 := hn.2
        refine lv_iload hx hb dX10_minds_29 (lv_at hl 4 rfl) ?_
        refine lv_tope (y := nI (ix n)) hn.1 ?_
        refine lv_aload_n hx hb dX10_minds_31 rfl (lv_at hl 0 rfl) ?_
        refine rg hf hk hw hinX10 0 rfl rfl 1 (by decide) w_0 rfl dX10_minds_32 ?_
        refine rg hf hk hw hinX8 1 rfl rfl 8 (by decide) w_1 rfl dX10_minds_35 ?_
        refine lv_iload_n hx hb dX10_minds_38 rfl (lv_at hl 3 rfl) ?_
        refine lv_tope (y := nI (ix goer)) hg.1 ?_
        refine lv_isub hx hb dX10_minds_39 ?_
        refine lv_tope (y := nI (cnt - ix goer)) (pk_sub (Nat.le_of_lt hg2)) ?_
        refine lv_icmp_le (tgt := 45) hx hb dX10_minds_40 (by decide) (fun c_4 => ?_) (fun c_4 => ?_)
        · have hnc : ix n ≤ cnt - ix goer := (nI_leI (by omega) (by omega)).mp c_4
          refine lv_aload_n hx hb dX10_minds_45 rfl (lv_at hl 0 rfl) ?_
          refine rg hf hk hw hinX10 0 rfl rfl 9 (by decide) w_2 rfl dX10_minds_46 ?_
          refine lv_iload_n hx hb dX10_minds_49 rfl (lv_at hl 1 rfl) ?_
          refine lv_tope (y := nI (ix sheet)) hs.1 ?_
          refine rqj hf hk hw 3 rfl (j := ix sheet) (r := some ia) (vp_in_nI (by omega) (by omega)) (nI_clamp (by omega)) (hso) dX10_minds_50 ?_
          refine lv_astore (lv' := [(5, .ref ia), (0, .ref lh), (1, .int sheet), (2, .int i_), (3, .int goer), (4, .int n)]) hx hb dX10_minds_51 hl (by decide) rfl (fun ls hl => ?_)
          refine lv_aload hx hb dX10_minds_53 (lv_at hl 0 rfl) ?_
          refine lv_ifnonnull (tgt := 61) hx hb dX10_minds_55 (by decide) ?_
          refine lv_aload hx hb dX10_minds_61 (lv_at hl 0 rfl) ?_
          refine rg hf hk hw hinX3 4 rfl rfl 0 (by decide) w_3 rfl dX10_minds_63 ?_
          refine lv_if_eq (tgt := 72) hx hb dX10_minds_66 (by decide) (fun c_5 => ?_) (fun c_5 => ?_)
          · refine lv_iload_n hx hb dX10_minds_72 rfl (lv_at hl 3 rfl) ?_
            refine lv_iconst (v := 0) hx hb dX10_minds_73 (by decide) ?_
            refine lv_aload hx hb dX10_minds_74 (lv_at hl 0 rfl) ?_
            refine rg hf hk hw hinX3 4 rfl rfl 1 (by decide) w_4 rfl dX10_minds_76 ?_
            refine ral hf hk hw 5 rfl (v := nI isz) rfl dX10_minds_79 ?_
            refine mcS hf hk hst hw (c_X10_isOutside l g i_ 0 (nI isz)) (va_cwS 3 hts gX10_minds_X10_isOutside rfl rfl rfl hdS_X10_isOutside ⟨Nat.le_of_ble_eq_true rfl, Nat.le_of_ble_eq_true rfl⟩) [] rfl rfl rfl hl.1 rfl (Nat.le_of_ble_eq_true rfl) dX10_minds_80 ⟨Nat.zero_le _, Nat.zero_le _⟩ (W' := [cob lh 10 [.ref ak, .ref t, .ref yt, .ref xt, .int isk, .ref ltp, .ref lrw, .int (nI rc), .ref lac, .ref lsh, .ref lhh, .ref lhg, .ref lhr], cob t 8 [.ref ak, .ref tl, .ref tf, .ref ta, .ref tk, .ref tg, .ref tp, .ref tm, .int (nI cnt), .int (nI stp), .int z], cin g tg 8 faiths, cit g lsh 4 sht, cob ia 3 [.int iso, .ref iv], cin g iv isz ivs]) rfl (fun H locs hw => ?_)
            refine lv_if_ne (tgt := 99) hx hb dX10_minds_83 (by decide) (fun c_6 => ?_) (fun c_6 => ?_)
            · refine lv_bipush (v := (-12)) hx hb dX10_minds_99 (by decide) ?_
              exact rE_i hf hr hlk hw ⟨congrArg some (by simp only [f_X10_minds, if_pos c_1, if_neg c_2, if_pos c_3, if_pos c_4, if_pos c_5, if_neg c_6]), by simp only [f_X10_minds_w1, if_pos c_1, if_neg c_2, if_pos c_3, if_pos c_4, if_pos c_5, if_neg c_6]⟩ (show ([lh, t, tg, lsh, ia, iv] : List Nat) = [lh, t, tg, lsh, ia, iv] from rfl) dX10_minds_101
            · have hi_ := out_n (N := isz) (nI_toInt (by omega)) c_6
              have hi2 := hi_.2
              refine lv_iload hx hb dX10_minds_86 (lv_at hl 5 rfl) ?_
              refine lv_tope (y := nI (ix n)) hn.1 ?_
              refine lv_aload hx hb dX10_minds_88 (lv_at hl 0 rfl) ?_
              refine rg hf hk hw hinX3 4 rfl rfl 1 (by decide) w_4 rfl dX10_minds_90 ?_
              refine ral hf hk hw 5 rfl (v := nI isz) rfl dX10_minds_93 ?_
              refine lv_iload_n hx hb dX10_minds_94 rfl (lv_at hl 3 rfl) ?_
              refine lv_tope (y := nI (ix i_)) hi_.1 ?_
              refine lv_isub hx hb dX10_minds_95 ?_
              refine lv_tope (y := nI (isz - ix i_)) (pk_sub hi2) ?_
              refine lv_icmp_le (tgt := 102) hx hb dX10_minds_96 (by decide) (fun c_7 => ?_) (fun c_7 => ?_)
              · have hni : ix n ≤ isz - ix i_ := (nI_leI (by omega) (by omega)).mp c_7
                refine lv_iconst (v := 0) hx hb dX10_minds_102 (by decide) ?_
                refine lv_istore (lv' := [(6, .int 0), (5, .ref ia), (0, .ref lh), (1, .int sheet), (2, .int i_), (3, .int goer), (4, .int n)]) hx hb dX10_minds_103 hl (by decide) rfl (fun ls hl => ?_)
                have lp_105_7 : ∀ (fu k : Nat), k ≤ (ix n) → (ix n) + 1 ≤ k + fu → ∀ (H : Heap) (locs : List Loc), hv g (va_I [cob lh 10 [.ref ak, .ref t, .ref yt, .ref xt, .int isk, .ref ltp, .ref lrw, .int (nI rc), .ref lac, .ref lsh, .ref lhh, .ref lhg, .ref lhr], cob t 8 [.ref ak, .ref tl, .ref tf, .ref ta, .ref tk, .ref tg, .ref tp, .ref tm, .int (nI cnt), .int (nI stp), .int z], cin g tg 8 faiths, cit g lsh 4 sht, cob ia 3 [.int iso, .ref iv], cin g iv isz ivs]) s H locs [cob lh 10 [.ref ak, .ref t, .ref yt, .ref xt, .int isk, .ref ltp, .ref lrw, .int (nI rc), .ref lac, .ref lsh, .ref lhh, .ref lhg, .ref lhr], cob t 8 [.ref ak, .ref tl, .ref tf, .ref ta, .ref tk, .ref tg, .ref tp, .ref tm, .int (nI cnt), .int (nI stp), .int z], cin g tg 8 (mindF faiths ivs (ix goer) (ix i_) k), cit g lsh 4 sht, cob ia 3 [.int iso, .ref iv], cin g iv isz ivs] → ∀ ls : Array Slot, lv_has ls 7 [(6, .int (nI k)), (5, .ref ia), (0, .ref lh), (1, .int sheet), (2, .int i_), (3, .int goer), (4, .int n)] → W p l e rmX10_minds_s s m ([.ref lh, .int sheet, .int i_, .int goer, .int n] : List Value).toArray below meth c H locs 0 0 (MQ below (mtS g [cob lh 10 [.ref ak, .ref t, .ref yt, .ref xt, .int isk, .ref ltp, .ref lrw, .int (nI rc), .ref lac, .ref lsh, .ref lhh, .ref lhg, .ref lhr], cob t 8 [.ref ak, .ref tl, .ref tf, .ref ta, .ref tk, .ref tg, .ref tp, .ref tm, .int (nI cnt), .int (nI stp), .int z], cin g tg 8 faiths, cit g lsh 4 sht, cob ia 3 [.int iso, .ref iv], cin g iv isz ivs] (fun rv W => rv = (some (.int (f_X10_minds cnt sheet i_ goer n iso isz))) ∧ W = [cob lh 10 [.ref ak, .ref t, .ref yt, .ref xt, .int isk, .ref ltp, .ref lrw, .int (nI rc), .ref lac, .ref lsh, .ref lhh, .ref lhg, .ref lhr], cob t 8 [.ref ak, .ref tl, .ref tf, .ref ta, .ref tk, .ref tg, .ref tp, .ref tm, .int (nI cnt), .int (nI stp), .int z], cin g tg 8 (f_X10_minds_w1 faiths cnt sheet i_ goer n iso isz ivs), cit g lsh 4 sht, cob ia 3 [.int iso, .ref iv], cin g iv isz ivs])) ([.ref lh, .int sheet, .int i_, .int goer, .int n] : List Value).toArray s 0 0 (va_I [cob lh 10 [.ref ak, .ref t, .ref yt, .ref xt, .int isk, .ref ltp, .ref lrw, .int (nI rc), .ref lac, .ref lsh, .ref lhh, .ref lhg, .ref lhr], cob t 8 [.ref ak, .ref tl, .ref tf, .ref ta, .ref tk, .ref tg, .ref tp, .ref tm, .int (nI cnt), .int (nI stp), .int z], cin g tg 8 faiths, cit g lsh 4 sht, cob ia 3 [.int iso, .ref iv], cin g iv isz ivs])) (F0 m 105 ls []) := by
                  intro fu
                  induction fu with
                  | zero =>
                    intro k h1 h2
                    exact absurd h2 (by omega)
                  | succ fu ih_105 =>
                    intro k hk1_105 hk2_105 H locs hw ls hl
                    refine lv_iload hx hb dX10_minds_105 (lv_at hl 0 rfl) ?_
                    refine lv_iload hx hb dX10_minds_107 (lv_at hl 6 rfl) ?_
                    refine lv_tope (y := nI (ix n)) hn.1 ?_
                    refine lv_icmp_ge (tgt := 143) hx hb dX10_minds_109 (by decide) (fun c_9 => ?_) (fun c_9 => ?_)
                    · have hkE : k = ix n := Nat.le_antisymm hk1_105 ((nI_leI (by omega) (by omega)).mp c_9)
                      subst hkE
                      refine lv_iload hx hb dX10_minds_143 (lv_at hl 6 rfl) ?_
                      refine lv_tope (y := nI (ix n)) hn.1 ?_
                      exact rE_i hf hr hlk hw ⟨congrArg some (by simp only [f_X10_minds, if_pos c_1, if_neg c_2, if_pos c_3, if_pos c_4, if_pos c_5, if_pos c_6, if_pos c_7, if_pos c_9]), by simp only [f_X10_minds_w1, if_pos c_1, if_neg c_2, if_pos c_3, if_pos c_4, if_pos c_5, if_pos c_6, if_pos c_7, if_pos c_9]⟩ (show ([lh, t, tg, lsh, ia, iv] : List Nat) = [lh, t, tg, lsh, ia, iv] from rfl) dX10_minds_145
                    · have hkE : k < ix n := Nat.not_le.mp (fun h => c_9 ((nI_leI (by omega) (by omega)).mpr h))
                      refine lv_aload_n hx hb dX10_minds_112 rfl (lv_at hl 2 rfl) ?_
                      refine rg hf hk hw hinX10 0 rfl rfl 1 (by decide) w_0 rfl dX10_minds_113 ?_
                      refine rg hf hk hw hinX8 1 rfl rfl 5 (by decide) w_5 rfl dX10_minds_116 ?_
                      refine lv_iload_n hx hb dX10_minds_119 rfl (lv_at hl 5 rfl) ?_
                      refine lv_tope (y := nI (ix goer)) hg.1 ?_
                      refine lv_iload hx hb dX10_minds_120 (lv_at hl 0 rfl) ?_
                      refine lv_iadd hx hb dX10_minds_122 ?_
                      refine lv_tope (y := nI (ix goer + k)) (nI_add _ _) ?_
                      refine lv_aload hx hb dX10_minds_123 (lv_at hl 1 rfl) ?_
                      refine rg hf hk hw hinX3 4 rfl rfl 1 (by decide) w_4 rfl dX10_minds_125 ?_
                      refine lv_iload_n hx hb dX10_minds_128 rfl (lv_at hl 4 rfl) ?_
                      refine lv_tope (y := nI (ix i_)) hi_.1 ?_
                      refine lv_iload hx hb dX10_minds_129 (lv_at hl 0 rfl) ?_
                      refine lv_iadd hx hb dX10_minds_131 ?_
                      refine lv_tope (y := nI (ix i_ + k)) (nI_add _ _) ?_
                      refine rij hf hk hw 5 rfl (j := ix i_ + k) (vp_in_nI (by omega) (by omega)) (nI_clamp (by omega)) dX10_minds_132 ?_
                      refine mcS hf hk hst hw (c_X10_heldFaith l g (ivs (ix i_ + k))) (va_cwS 1 hts gX10_minds_X10_heldFaith rfl rfl rfl hdS_X10_heldFaith ⟨Nat.le_of_ble_eq_true rfl, Nat.le_of_ble_eq_true rfl⟩) [] rfl rfl rfl hl.1 rfl (Nat.le_of_ble_eq_true rfl) dX10_minds_133 ⟨Nat.zero_le _, Nat.zero_le _⟩ (W' := [cob lh 10 [.ref ak, .ref t, .ref yt, .ref xt, .int isk, .ref ltp, .ref lrw, .int (nI rc), .ref lac, .ref lsh, .ref lhh, .ref lhg, .ref lhr], cob t 8 [.ref ak, .ref tl, .ref tf, .ref ta, .ref tk, .ref tg, .ref tp, .ref tm, .int (nI cnt), .int (nI stp), .int z], cin g tg 8 (mindF faiths ivs (ix goer) (ix i_) k), cit g lsh 4 sht, cob ia 3 [.int iso, .ref iv], cin g iv isz ivs]) rfl (fun H locs hw => ?_)
                      refine lv_tope (y := hF (ivs (ix i_ + k))) (rfl) ?_
                      refine rsj hf hk hw 2 rfl (j := ix goer + k) (vp_in_nI (by omega) (by omega)) (nI_clamp (by omega)) dX10_minds_136 (W' := [cob lh 10 [.ref ak, .ref t, .ref yt, .ref xt, .int isk, .ref ltp, .ref lrw, .int (nI rc), .ref lac, .ref lsh, .ref lhh, .ref lhg, .ref lhr], cob t 8 [.ref ak, .ref tl, .ref tf, .ref ta, .ref tk, .ref tg, .ref tp, .ref tm, .int (nI cnt), .int (nI stp), .int z], cin g tg 8 (upd (mindF faiths ivs (ix goer) (ix i_) k) (ix goer + k) (hF (ivs (ix i_ + k)))), cit g lsh 4 sht, cob ia 3 [.int iso, .ref iv], cin g iv isz ivs]) rfl (fun H locs hw => ?_)
                      refine lv_iinc (v := nI (k + 1)) (lv' := [(6, .int (nI (k + 1))), (5, .ref ia), (0, .ref lh), (1, .int sheet), (2, .int i_), (3, .int goer), (4, .int n)]) hx hb dX10_minds_137 hl (k := 0) rfl (nI_1 _) (by decide) rfl (fun ls hl => ?_)
                      refine lv_goto (tgt := 105) hx hb dX10_minds_140 (by decide) ?_
                      have e_1 : upd (mindF faiths ivs (ix goer) (ix i_) k) (ix goer + k) (hF (ivs (ix i_ + k))) = mindF faiths ivs (ix goer) (ix i_) (k + 1) := rfl
                      rw [e_1] at hw
                      exact ih_105 (k + 1) (by omega) (by omega) _ _ hw _ (lv_sub hl [0, 1, 2, 3, 4, 5, 6] rfl)
                exact lp_105_7 ((ix n) + 1) 0 (by omega) (by omega) _ _ hw _ (lv_sub hl [0, 1, 2, 3, 4, 5, 6] rfl)
              · refine lv_bipush (v := (-12)) hx hb dX10_minds_99 (by decide) ?_
                exact rE_i hf hr hlk hw ⟨congrArg some (by simp only [f_X10_minds, if_pos c_1, if_neg c_2, if_pos c_3, if_pos c_4, if_pos c_5, if_pos c_6, if_neg c_7]), by simp only [f_X10_minds_w1, if_pos c_1, if_neg c_2, if_pos c_3, if_pos c_4, if_pos c_5, if_pos c_6, if_neg c_7]⟩ (show ([lh, t, tg, lsh, ia, iv] : List Nat) = [lh, t, tg, lsh, ia, iv] from rfl) dX10_minds_101
          · refine lv_bipush (v := (-13)) hx hb dX10_minds_69 (by decide) ?_
            exact rE_i hf hr hlk hw ⟨congrArg some (by simp only [f_X10_minds, if_pos c_1, if_neg c_2, if_pos c_3, if_pos c_4, if_neg c_5]), by simp only [f_X10_minds_w1, if_pos c_1, if_neg c_2, if_pos c_3, if_pos c_4, if_neg c_5]⟩ (show ([lh, t, tg, lsh, ia, iv] : List Nat) = [lh, t, tg, lsh, ia, iv] from rfl) dX10_minds_71
        · refine lv_iconst (v := (-1)) hx hb dX10_minds_43 (by decide) ?_
          exact rE_i hf hr hlk hw ⟨congrArg some (by simp only [f_X10_minds, if_pos c_1, if_neg c_2, if_pos c_3, if_neg c_4]), by simp only [f_X10_minds_w1, if_pos c_1, if_neg c_2, if_pos c_3, if_neg c_4]⟩ (show ([lh, t, tg, lsh, ia, iv] : List Nat) = [lh, t, tg, lsh, ia, iv] from rfl) dX10_minds_44
abbrev rmX10_fits_n : Room := { frames := 2, cells := 0, slots := 0, locals := 42 }
set_option maxHeartbeats 4000000 in
set_option maxRecDepth 100000 in
theorem c_X10_fits_n (l : Launch) (g : GG) (lh : Nat) (t : Nat) (tl : Nat) (tf : Nat) (ta : Nat) (tk : Nat) (tg : Nat) (tp : Nat) (tm : Nat) (laws : Nat → Int32) (fogs : Nat → Int32) (arms : Nat → Int32) (kinds : Nat → Int32) (faiths : Nat → Int32) (places : Nat → Int32) (moved : Nat → Int32) (cnt : Nat) (stp : Nat) (z : Int32) (xt : Nat) (xtl : Nat) (xtf : Nat) (xta : Nat) (xtk : Nat) (xtg : Nat) (xtp : Nat) (xtm : Nat) (xlaws : Nat → Int32) (xfogs : Nat → Int32) (xarms : Nat → Int32) (xkinds : Nat → Int32) (xfaiths : Nat → Int32) (xplaces : Nat → Int32) (xmoved : Nat → Int32) (xcnt : Nat) (xstp : Nat) (xz : Int32) (yt : Nat) (ak : Nat) (k0 : Nat) (k1 : Nat) (k2 : Nat) (k3 : Nat) (k4 : Nat) (k5 : Nat) (isk : Int32) (ltp : Nat) (lrw : Nat) (rc : Nat) (lac : Nat) (lsh : Nat) (lhh : Nat) (lhg : Nat) (lhr : Nat) (sheet : Int32) (goer : Int32) (what : Int32) (sht : Nat → Option Nat) (hc8 : cnt ≤ 8) (hsp : stp < 2 ^ 29) (hkd : ∀ j, j < cnt → isK (kinds j)) (hso : sht (ix sheet) = none) : mtR l g yX10_fits wsX10_fits rmX10_fits_n [.ref lh, .int sheet, .int goer, .int what] [cob lh 10 [.ref ak, .ref t, .ref yt, .ref xt, .int isk, .ref ltp, .ref lrw, .int (nI rc), .ref lac, .ref lsh, .ref lhh, .ref lhg, .ref lhr], cob t 8 [.ref ak, .ref tl, .ref tf, .ref ta, .ref tk, .ref tg, .ref tp, .ref tm, .int (nI cnt), .int (nI stp), .int z], cin g tl 4 laws, cin g tf 6 fogs, cin g ta 6 arms, cin g tk 8 kinds, cin g tg 8 faiths, cin g tp 8 places, cin g tm 8 moved, cob xt 8 [.ref ak, .ref xtl, .ref xtf, .ref xta, .ref xtk, .ref xtg, .ref xtp, .ref xtm, .int (nI xcnt), .int (nI xstp), .int xz], cin g xtl 4 xlaws, cin g xtf 6 xfogs, cin g xta 6 xarms, cin g xtk 8 xkinds, cin g xtg 8 xfaiths, cin g xtp 8 xplaces, cin g xtm 8 xmoved, ckd g ak 6 (kdf k0 k1 k2 k3 k4 k5), cob k0 4 [], cob k1 2 [], cob k2 5 [], cob k3 6 [], cob k4 9 [], cob k5 1 [], cit g lsh 4 sht] (fun rv W => rv = (some (.int (if f_X10_isOutside sheet 0 3 = 0 then (if f_X8_has cnt goer = 0 then -1 else if f_X10_isOutside what 0 1 = 0 then -11 else -1) else -1))) ∧ ∃ (j0 : Nat) (j1 : Nat) (j2 : Int32) (j3 : Nat → Int32) (j4 : Nat → Int32) (j5 : Nat → Int32) (j6 : Nat → Int32) (j7 : Nat → Int32) (j8 : Nat → Int32) (j9 : Nat → Int32), W = [cob lh 10 [.ref ak, .ref t, .ref yt, .ref xt, .int isk, .ref ltp, .ref lrw, .int (nI rc), .ref lac, .ref lsh, .ref lhh, .ref lhg, .ref lhr], cob t 8 [.ref ak, .ref tl, .ref tf, .ref ta, .ref tk, .ref tg, .ref tp, .ref tm, .int (nI cnt), .int (nI stp), .int z], cin g tl 4 laws, cin g tf 6 fogs, cin g ta 6 arms, cin g tk 8 kinds, cin g tg 8 faiths, cin g tp 8 places, cin g tm 8 moved, cob xt 8 [.ref ak, .ref xtl, .ref xtf, .ref xta, .ref xtk, .ref xtg, .ref xtp, .ref xtm, .int (nI j0), .int (nI j1), .int j2], cin g xtl 4 j3, cin g xtf 6 j4, cin g xta 6 j5, cin g xtk 8 j6, cin g xtg 8 j7, cin g xtp 8 j8, cin g xtm 8 j9, ckd g ak 6 (kdf k0 k1 k2 k3 k4 k5), cob k0 4 [], cob k1 2 [], cob k2 5 [], cob k3 6 [], cob k4 9 [], cob k5 1 [], cit g lsh 4 sht]) := by
  refine mtR.of (cc := cX10_fits) (nL := 8) (ret := (some .int)) (own := RX10) (by decide +kernel) rfl rfl (Nat.le_of_ble_eq_true rfl) (fun p e s m below meth c hf hr hlk _ hk hst hw ls hl => ?_)
  have hx := hf.1
  have hb := hf.2.1
  have hts := hf.2.2.2.2
  have hl : lv_has ls 8 [(0, .ref lh), (1, .int sheet), (2, .int goer), (3, .int what)] := hl
  have hinX10 : ∀ w ∈ u_ws RX10 TX10 13, w ∈ wsX10_fits := fun w h => List.mem_cons_of_mem _ (List.mem_append_left _ (List.mem_append_left _ (List.mem_append_right _ h)))
  have w_0 : Cond.fieldLink RX10 36 "LightMan" "now" "LLightMan$Tunnel;" ∈ wsX10_fits := List.mem_of_getElem? (i := 1) rfl
  have w_1 : Cond.fieldLink RX10 74 "LightMan" "sheets" "[LLightMan$Items;" ∈ wsX10_fits := List.mem_of_getElem? (i := 2) rfl
  refine lv_iload_n hx hb dX10_fits_0 rfl (lv_at hl 1 rfl) ?_
  refine mcS hf hk hst hw (c_X10_isNoSheet l g sheet) (va_cwS 1 hts gX10_fits_X10_isNoSheet rfl rfl rfl hdS_X10_isNoSheet ⟨Nat.le_of_ble_eq_true rfl, Nat.le_of_ble_eq_true rfl⟩) [] rfl rfl rfl hl.1 rfl (Nat.le_of_ble_eq_true rfl) dX10_fits_1 ⟨Nat.zero_le _, Nat.zero_le _⟩ (W' := [cob lh 10 [.ref ak, .ref t, .ref yt, .ref xt, .int isk, .ref ltp, .ref lrw, .int (nI rc), .ref lac, .ref lsh, .ref lhh, .ref lhg, .ref lhr], cob t 8 [.ref ak, .ref tl, .ref tf, .ref ta, .ref tk, .ref tg, .ref tp, .ref tm, .int (nI cnt), .int (nI stp), .int z], cin g tl 4 laws, cin g tf 6 fogs, cin g ta 6 arms, cin g tk 8 kinds, cin g tg 8 faiths, cin g tp 8 places, cin g tm 8 moved, cob xt 8 [.ref ak, .ref xtl, .ref xtf, .ref xta, .ref xtk, .ref xtg, .ref xtp, .ref xtm, .int (nI xcnt), .int (nI xstp), .int xz], cin g xtl 4 xlaws, cin g xtf 6 xfogs, cin g xta 6 xarms, cin g xtk 8 xkinds, cin g xtg 8 xfaiths, cin g xtp 8 xplaces, cin g xtm 8 xmoved, ckd g ak 6 (kdf k0 k1 k2 k3 k4 k5), cob k0 4 [], cob k1 2 [], cob k2 5 [], cob k3 6 [], cob k4 9 [], cob k5 1 [], cit g lsh 4 sht]) rfl (fun H locs hw => ?_)
  refine lv_if_ne (tgt := 27) hx hb dX10_fits_4 (by decide) (fun c_1 => ?_) (fun c_1 => ?_)
  · refine lv_iconst (v := (-1)) hx hb dX10_fits_27 (by decide) ?_
    exact rE_i hf hr hlk hw ⟨congrArg some (by simp only [if_neg c_1]), _, _, _, _, _, _, _, _, _, _, rfl⟩ (show ([lh, t, tl, tf, ta, tk, tg, tp, tm, xt, xtl, xtf, xta, xtk, xtg, xtp, xtm, ak, k0, k1, k2, k3, k4, k5, lsh] : List Nat) = [lh, t, tl, tf, ta, tk, tg, tp, tm, xt, xtl, xtf, xta, xtk, xtg, xtp, xtm, ak, k0, k1, k2, k3, k4, k5, lsh] from rfl) dX10_fits_28
  · have hs := out_n (N := 3) (by decide) c_1
    have hs2 := hs.2
    refine lv_aload_n hx hb dX10_fits_7 rfl (lv_at hl 0 rfl) ?_
    refine rg hf hk hw hinX10 0 rfl rfl 1 (by decide) w_0 rfl dX10_fits_8 ?_
    refine lv_iload_n hx hb dX10_fits_11 rfl (lv_at hl 2 rfl) ?_
    refine mcV hf hk hst hw (c_X8_has l g t tl tf ta tk tg tp tm cnt stp z ak goer) (cwV 1 hts gX10_fits_X8_has rfl rfl rfl hdV_X8_has ⟨Nat.le_of_ble_eq_true rfl, Nat.le_of_ble_eq_true rfl⟩) [1] rfl rfl 1 rfl rfl rfl hl.1 rfl (Nat.le_of_ble_eq_true rfl) dX10_fits_12 ⟨Nat.zero_le _, Nat.zero_le _⟩ (W' := [cob lh 10 [.ref ak, .ref t, .ref yt, .ref xt, .int isk, .ref ltp, .ref lrw, .int (nI rc), .ref lac, .ref lsh, .ref lhh, .ref lhg, .ref lhr], cob t 8 [.ref ak, .ref tl, .ref tf, .ref ta, .ref tk, .ref tg, .ref tp, .ref tm, .int (nI cnt), .int (nI stp), .int z], cin g tl 4 laws, cin g tf 6 fogs, cin g ta 6 arms, cin g tk 8 kinds, cin g tg 8 faiths, cin g tp 8 places, cin g tm 8 moved, cob xt 8 [.ref ak, .ref xtl, .ref xtf, .ref xta, .ref xtk, .ref xtg, .ref xtp, .ref xtm, .int (nI xcnt), .int (nI xstp), .int xz], cin g xtl 4 xlaws, cin g xtf 6 xfogs, cin g xta 6 xarms, cin g xtk 8 xkinds, cin g xtg 8 xfaiths, cin g xtp 8 xplaces, cin g xtm 8 xmoved, ckd g ak 6 (kdf k0 k1 k2 k3 k4 k5), cob k0 4 [], cob k1 2 [], cob k2 5 [], cob k3 6 [], cob k4 9 [], cob k5 1 [], cit g lsh 4 sht]) rfl (fun H locs hw => ?_)
    refine lv_if_eq (tgt := 27) hx hb dX10_fits_15 (by decide) (fun c_2 => ?_) (fun c_2 => ?_)
    · refine lv_iconst (v := (-1)) hx hb dX10_fits_27 (by decide) ?_
      exact rE_i hf hr hlk hw ⟨congrArg some (by simp only [if_pos c_1, if_pos c_2]), _, _, _, _, _, _, _, _, _, _, rfl⟩ (show ([lh, t, tl, tf, ta, tk, tg, tp, tm, xt, xtl, xtf, xta, xtk, xtg, xtp, xtm, ak, k0, k1, k2, k3, k4, k5, lsh] : List Nat) = [lh, t, tl, tf, ta, tk, tg, tp, tm, xt, xtl, xtf, xta, xtk, xtg, xtp, xtm, ak, k0, k1, k2, k3, k4, k5, lsh] from rfl) dX10_fits_28
    · have hg := has_n hc8 c_2
      have hg2 := hg.2
      refine lv_iload_n hx hb dX10_fits_18 rfl (lv_at hl 3 rfl) ?_
      refine lv_iconst (v := 0) hx hb dX10_fits_19 (by decide) ?_
      refine lv_iconst (v := 1) hx hb dX10_fits_20 (by decide) ?_
      refine mcS hf hk hst hw (c_X10_isOutside l g what 0 1) (va_cwS 3 hts gX10_fits_X10_isOutside rfl rfl rfl hdS_X10_isOutside ⟨Nat.le_of_ble_eq_true rfl, Nat.le_of_ble_eq_true rfl⟩) [] rfl rfl rfl hl.1 rfl (Nat.le_of_ble_eq_true rfl) dX10_fits_21 ⟨Nat.zero_le _, Nat.zero_le _⟩ (W' := [cob lh 10 [.ref ak, .ref t, .ref yt, .ref xt, .int isk, .ref ltp, .ref lrw, .int (nI rc), .ref lac, .ref lsh, .ref lhh, .ref lhg, .ref lhr], cob t 8 [.ref ak, .ref tl, .ref tf, .ref ta, .ref tk, .ref tg, .ref tp, .ref tm, .int (nI cnt), .int (nI stp), .int z], cin g tl 4 laws, cin g tf 6 fogs, cin g ta 6 arms, cin g tk 8 kinds, cin g tg 8 faiths, cin g tp 8 places, cin g tm 8 moved, cob xt 8 [.ref ak, .ref xtl, .ref xtf, .ref xta, .ref xtk, .ref xtg, .ref xtp, .ref xtm, .int (nI xcnt), .int (nI xstp), .int xz], cin g xtl 4 xlaws, cin g xtf 6 xfogs, cin g xta 6 xarms, cin g xtk 8 xkinds, cin g xtg 8 xfaiths, cin g xtp 8 xplaces, cin g xtm 8 xmoved, ckd g ak 6 (kdf k0 k1 k2 k3 k4 k5), cob k0 4 [], cob k1 2 [], cob k2 5 [], cob k3 6 [], cob k4 9 [], cob k5 1 [], cit g lsh 4 sht]) rfl (fun H locs hw => ?_)
      refine lv_if_eq (tgt := 29) hx hb dX10_fits_24 (by decide) (fun c_3 => ?_) (fun c_3 => ?_)
      · refine lv_aload_n hx hb dX10_fits_29 rfl (lv_at hl 0 rfl) ?_
        refine rg hf hk hw hinX10 0 rfl rfl 9 (by decide) w_1 rfl dX10_fits_30 ?_
        refine lv_iload_n hx hb dX10_fits_33 rfl (lv_at hl 1 rfl) ?_
        refine lv_tope (y := nI (ix sheet)) hs.1 ?_
        refine rqj hf hk hw 24 rfl (j := ix sheet) (r := none) (vp_in_nI (by omega) (by omega)) (nI_clamp (by omega)) (hso) dX10_fits_34 ?_
        refine lv_astoreN (lv' := [(4, .null), (0, .ref lh), (1, .int sheet), (2, .int goer), (3, .int what)]) hx hb dX10_fits_35 hl (by decide) rfl (fun ls hl => ?_)
        refine lv_aloadN hx hb dX10_fits_37 (lv_at hl 0 rfl) ?_
        refine lv_ifnonnullN hx hb dX10_fits_39 ?_
        refine lv_bipush (v := (-11)) hx hb dX10_fits_42 (by decide) ?_
        exact rE_i hf hr hlk hw ⟨congrArg some (by simp only [if_pos c_1, if_neg c_2, if_pos c_3]), _, _, _, _, _, _, _, _, _, _, rfl⟩ (show ([lh, t, tl, tf, ta, tk, tg, tp, tm, xt, xtl, xtf, xta, xtk, xtg, xtp, xtm, ak, k0, k1, k2, k3, k4, k5, lsh] : List Nat) = [lh, t, tl, tf, ta, tk, tg, tp, tm, xt, xtl, xtf, xta, xtk, xtg, xtp, xtm, ak, k0, k1, k2, k3, k4, k5, lsh] from rfl) dX10_fits_44
      · refine lv_iconst (v := (-1)) hx hb dX10_fits_27 (by decide) ?_
        exact rE_i hf hr hlk hw ⟨congrArg some (by simp only [if_pos c_1, if_neg c_2, if_neg c_3]), _, _, _, _, _, _, _, _, _, _, rfl⟩ (show ([lh, t, tl, tf, ta, tk, tg, tp, tm, xt, xtl, xtf, xta, xtk, xtg, xtp, xtm, ak, k0, k1, k2, k3, k4, k5, lsh] : List Nat) = [lh, t, tl, tf, ta, tk, tg, tp, tm, xt, xtl, xtf, xta, xtk, xtg, xtp, xtm, ak, k0, k1, k2, k3, k4, k5, lsh] from rfl) dX10_fits_28
theorem hdV_X8_goesBy : yX8_goesBy.cls = RX8 ∧ yX8_goesBy.cls ≠ "java/lang/invoke/MethodHandle" ∧ yX8_goesBy.cls ≠ "java/lang/invoke/VarHandle" ∧ (parseMethodDescriptor yX8_goesBy.desc).map (fun d => d.parameters.length) = some 2 := by decide +kernel
abbrev rmX10_fits_s : Room := { frames := 6, cells := 0, slots := 0, locals := 140 }
set_option maxHeartbeats 4000000 in
set_option maxRecDepth 100000 in
theorem c_X10_fits_s (l : Launch) (g : GG) (lh : Nat) (t : Nat) (tl : Nat) (tf : Nat) (ta : Nat) (tk : Nat) (tg : Nat) (tp : Nat) (tm : Nat) (laws : Nat → Int32) (fogs : Nat → Int32) (arms : Nat → Int32) (kinds : Nat → Int32) (faiths : Nat → Int32) (places : Nat → Int32) (moved : Nat → Int32) (cnt : Nat) (stp : Nat) (z : Int32) (xt : Nat) (xtl : Nat) (xtf : Nat) (xta : Nat) (xtk : Nat) (xtg : Nat) (xtp : Nat) (xtm : Nat) (xlaws : Nat → Int32) (xfogs : Nat → Int32) (xarms : Nat → Int32) (xkinds : Nat → Int32) (xfaiths : Nat → Int32) (xplaces : Nat → Int32) (xmoved : Nat → Int32) (xcnt : Nat) (xstp : Nat) (xz : Int32) (yt : Nat) (ak : Nat) (k0 : Nat) (k1 : Nat) (k2 : Nat) (k3 : Nat) (k4 : Nat) (k5 : Nat) (isk : Int32) (ltp : Nat) (lrw : Nat) (rc : Nat) (lac : Nat) (lsh : Nat) (lhh : Nat) (lhg : Nat) (lhr : Nat) (sheet : Int32) (goer : Int32) (what : Int32) (sht : Nat → Option Nat) (ia : Nat) (iv : Nat) (iso : Int32) (isz : Nat) (ivs : Nat → Int32) (hc8 : cnt ≤ 8) (hsp : stp < 2 ^ 29) (hkd : ∀ j, j < cnt → isK (kinds j)) (hz40 : isz ≤ 40) (hso : sht (ix sheet) = some ia) : mtR l g yX10_fits wsX10_fits rmX10_fits_s [.ref lh, .int sheet, .int goer, .int what] [cob lh 10 [.ref ak, .ref t, .ref yt, .ref xt, .int isk, .ref ltp, .ref lrw, .int (nI rc), .ref lac, .ref lsh, .ref lhh, .ref lhg, .ref lhr], cob t 8 [.ref ak, .ref tl, .ref tf, .ref ta, .ref tk, .ref tg, .ref tp, .ref tm, .int (nI cnt), .int (nI stp), .int z], cin g tl 4 laws, cin g tf 6 fogs, cin g ta 6 arms, cin g tk 8 kinds, cin g tg 8 faiths, cin g tp 8 places, cin g tm 8 moved, cob xt 8 [.ref ak, .ref xtl, .ref xtf, .ref xta, .ref xtk, .ref xtg, .ref xtp, .ref xtm, .int (nI xcnt), .int (nI xstp), .int xz], cin g xtl 4 xlaws, cin g xtf 6 xfogs, cin g xta 6 xarms, cin g xtk 8 xkinds, cin g xtg 8 xfaiths, cin g xtp 8 xplaces, cin g xtm 8 xmoved, ckd g ak 6 (kdf k0 k1 k2 k3 k4 k5), cob k0 4 [], cob k1 2 [], cob k2 5 [], cob k3 6 [], cob k4 9 [], cob k5 1 [], cit g lsh 4 sht, cob ia 3 [.int iso, .ref iv], cin g iv isz ivs] (fun rv W => rv = (some (.int (if f_X10_isOutside sheet 0 3 = 0 then (if f_X8_has cnt goer = 0 then -1 else if f_X10_isOutside what 0 1 = 0 then (if what = 0 then nI (fitR (fitQ laws fogs arms (kinds (ix goer)) stp (places (ix goer)) (moved (ix goer)) ivs isz) 100).1 else (fitR (fitQ laws fogs arms (kinds (ix goer)) stp (places (ix goer)) (moved (ix goer)) ivs isz) 100).2) else -1) else -1))) ∧ ∃ (j0 : Nat) (j1 : Nat) (j2 : Int32) (j3 : Nat → Int32) (j4 : Nat → Int32) (j5 : Nat → Int32) (j6 : Nat → Int32) (j7 : Nat → Int32) (j8 : Nat → Int32) (j9 : Nat → Int32), W = [cob lh 10 [.ref ak, .ref t, .ref yt, .ref xt, .int isk, .ref ltp, .ref lrw, .int (nI rc), .ref lac, .ref lsh, .ref lhh, .ref lhg, .ref lhr], cob t 8 [.ref ak, .ref tl, .ref tf, .ref ta, .ref tk, .ref tg, .ref tp, .ref tm, .int (nI cnt), .int (nI stp), .int z], cin g tl 4 laws, cin g tf 6 fogs, cin g ta 6 arms, cin g tk 8 kinds, cin g tg 8 faiths, cin g tp 8 places, cin g tm 8 moved, cob xt 8 [.ref ak, .ref xtl, .ref xtf, .ref xta, .ref xtk, .ref xtg, .ref xtp, .ref xtm, .int (nI j0), .int (nI j1), .int j2], cin g xtl 4 j3, cin g xtf 6 j4, cin g xta 6 j5, cin g xtk 8 j6, cin g xtg 8 j7, cin g xtp 8 j8, cin g xtm 8 j9, ckd g ak 6 (kdf k0 k1 k2 k3 k4 k5), cob k0 4 [], cob k1 2 [], cob k2 5 [], cob k3 6 [], cob k4 9 [], cob k5 1 [], cit g lsh 4 sht, cob ia 3 [.int iso, .ref iv], cin g iv isz ivs]) := by
  refine mtR.of (cc := cX10_fits) (nL := 8) (ret := (some .int)) (own := RX10) (by decide +kernel) rfl rfl (Nat.le_of_ble_eq_true rfl) (fun p e s m below meth c hf hr hlk _ hk hst hw ls hl => ?_)
  have hx := hf.1
  have hb := hf.2.1
  have hts := hf.2.2.2.2
  have hl : lv_has ls 8 [(0, .ref lh), (1, .int sheet), (2, .int goer), (3, .int what)] := hl
  have hinX10 : ∀ w ∈ u_ws RX10 TX10 13, w ∈ wsX10_fits := fun w h => List.mem_cons_of_mem _ (List.mem_append_left _ (List.mem_append_left _ (List.mem_append_right _ h)))
  have w_0 : Cond.fieldLink RX10 36 "LightMan" "now" "LLightMan$Tunnel;" ∈ wsX10_fits := List.mem_of_getElem? (i := 1) rfl
  have w_1 : Cond.fieldLink RX10 74 "LightMan" "sheets" "[LLightMan$Items;" ∈ wsX10_fits := List.mem_of_getElem? (i := 2) rfl
  have w_2 : Cond.fieldLink RX10 43 "LightMan" "tried" "LLightMan$Tunnel;" ∈ wsX10_fits := List.mem_of_getElem? (i := 3) rfl
  have hinX8 : ∀ w ∈ u_ws RX8 TX8 11, w ∈ wsX10_fits := fun w h => List.mem_cons_of_mem _ (List.mem_append_left _ (List.mem_append_right _ h))
  have w_3 : Cond.fieldLink RX10 140 "LightMan$Tunnel" "faiths" "[I" ∈ wsX10_fits := List.mem_of_getElem? (i := 4) rfl
  have hinX3 : ∀ w ∈ u_ws RX3 TX3 2, w ∈ wsX10_fits := fun w h => List.mem_cons_of_mem _ (List.mem_append_right _ h)
  have w_4 : Cond.fieldLink RX10 228 "LightMan$Items" "values" "[I" ∈ wsX10_fits := List.mem_of_getElem? (i := 5) rfl
  refine lv_iload_n hx hb dX10_fits_0 rfl (lv_at hl 1 rfl) ?_
  refine mcS hf hk hst hw (c_X10_isNoSheet l g sheet) (va_cwS 1 hts gX10_fits_X10_isNoSheet rfl rfl rfl hdS_X10_isNoSheet ⟨Nat.le_of_ble_eq_true rfl, Nat.le_of_ble_eq_true rfl⟩) [] rfl rfl rfl hl.1 rfl (Nat.le_of_ble_eq_true rfl) dX10_fits_1 ⟨Nat.zero_le _, Nat.zero_le _⟩ (W' := [cob lh 10 [.ref ak, .ref t, .ref yt, .ref xt, .int isk, .ref ltp, .ref lrw, .int (nI rc), .ref lac, .ref lsh, .ref lhh, .ref lhg, .ref lhr], cob t 8 [.ref ak, .ref tl, .ref tf, .ref ta, .ref tk, .ref tg, .ref tp, .ref tm, .int (nI cnt), .int (nI stp), .int z], cin g tl 4 laws, cin g tf 6 fogs, cin g ta 6 arms, cin g tk 8 kinds, cin g tg 8 faiths, cin g tp 8 places, cin g tm 8 moved, cob xt 8 [.ref ak, .ref xtl, .ref xtf, .ref xta, .ref xtk, .ref xtg, .ref xtp, .ref xtm, .int (nI xcnt), .int (nI xstp), .int xz], cin g xtl 4 xlaws, cin g xtf 6 xfogs, cin g xta 6 xarms, cin g xtk 8 xkinds, cin g xtg 8 xfaiths, cin g xtp 8 xplaces, cin g xtm 8 xmoved, ckd g ak 6 (kdf k0 k1 k2 k3 k4 k5), cob k0 4 [], cob k1 2 [], cob k2 5 [], cob k3 6 [], cob k4 9 [], cob k5 1 [], cit g lsh 4 sht, cob ia 3 [.int iso, .ref iv], cin g iv isz ivs]) rfl (fun H locs hw => ?_)
  refine lv_if_ne (tgt := 27) hx hb dX10_fits_4 (by decide) (fun c_1 => ?_) (fun c_1 => ?_)
  · refine lv_iconst (v := (-1)) hx hb dX10_fits_27 (by decide) ?_
    exact rE_i hf hr hlk hw ⟨congrArg some (by simp only [if_neg c_1]), _, _, _, _, _, _, _, _, _, _, rfl⟩ (show ([lh, t, tl, tf, ta, tk, tg, tp, tm, xt, xtl, xtf, xta, xtk, xtg, xtp, xtm, ak, k0, k1, k2, k3, k4, k5, lsh, ia, iv] : List Nat) = [lh, t, tl, tf, ta, tk, tg, tp, tm, xt, xtl, xtf, xta, xtk, xtg, xtp, xtm, ak, k0, k1, k2, k3, k4, k5, lsh, ia, iv] from rfl) dX10_fits_28
  · have hs := out_n (N := 3) (by decide) c_1
    have hs2 := hs.2
    refine lv_aload_n hx hb dX10_fits_7 rfl (lv_at hl 0 rfl) ?_
    refine rg hf hk hw hinX10 0 rfl rfl 1 (by decide) w_0 rfl dX10_fits_8 ?_
    refine lv_iload_n hx hb dX10_fits_11 rfl (lv_at hl 2 rfl) ?_
    refine mcV hf hk hst hw (c_X8_has l g t tl tf ta tk tg tp tm cnt stp z ak goer) (cwV 1 hts gX10_fits_X8_has rfl rfl rfl hdV_X8_has ⟨Nat.le_of_ble_eq_true rfl, Nat.le_of_ble_eq_true rfl⟩) [1] rfl rfl 1 rfl rfl rfl hl.1 rfl (Nat.le_of_ble_eq_true rfl) dX10_fits_12 ⟨Nat.zero_le _, Nat.zero_le _⟩ (W' := [cob lh 10 [.ref ak, .ref t, .ref yt, .ref xt, .int isk, .ref ltp, .ref lrw, .int (nI rc), .ref lac, .ref lsh, .ref lhh, .ref lhg, .ref lhr], cob t 8 [.ref ak, .ref tl, .ref tf, .ref ta, .ref tk, .ref tg, .ref tp, .ref tm, .int (nI cnt), .int (nI stp), .int z], cin g tl 4 laws, cin g tf 6 fogs, cin g ta 6 arms, cin g tk 8 kinds, cin g tg 8 faiths, cin g tp 8 places, cin g tm 8 moved, cob xt 8 [.ref ak, .ref xtl, .ref xtf, .ref xta, .ref xtk, .ref xtg, .ref xtp, .ref xtm, .int (nI xcnt), .int (nI xstp), .int xz], cin g xtl 4 xlaws, cin g xtf 6 xfogs, cin g xta 6 xarms, cin g xtk 8 xkinds, cin g xtg 8 xfaiths, cin g xtp 8 xplaces, cin g xtm 8 xmoved, ckd g ak 6 (kdf k0 k1 k2 k3 k4 k5), cob k0 4 [], cob k1 2 [], cob k2 5 [], cob k3 6 [], cob k4 9 [], cob k5 1 [], cit g lsh 4 sht, cob ia 3 [.int iso, .ref iv], cin g iv isz ivs]) rfl (fun H locs hw => ?_)
    refine lv_if_eq (tgt := 27) hx hb dX10_fits_15 (by decide) (fun c_2 => ?_) (fun c_2 => ?_)
    · refine lv_iconst (v := (-1)) hx hb dX10_fits_27 (by decide) ?_
      exact rE_i hf hr hlk hw ⟨congrArg some (by simp only [if_pos c_1, if_pos c_2]), _, _, _, _, _, _, _, _, _, _, rfl⟩ (show ([lh, t, tl, tf, ta, tk, tg, tp, tm, xt, xtl, xtf, xta, xtk, xtg, xtp, xtm, ak, k0, k1, k2, k3, k4, k5, lsh, ia, iv] : List Nat) = [lh, t, tl, tf, ta, tk, tg, tp, tm, xt, xtl, xtf, xta, xtk, xtg, xtp, xtm, ak, k0, k1, k2, k3, k4, k5, lsh, ia, iv] from rfl) dX10_fits_28
    · have hg := has_n hc8 c_2
      have hg2 := hg.2
      refine lv_iload_n hx hb dX10_fits_18 rfl (lv_at hl 3 rfl) ?_
      refine lv_iconst (v := 0) hx hb dX10_fits_19 (by decide) ?_
      refine lv_iconst (v := 1) hx hb dX10_fits_20 (by decide) ?_
      refine mcS hf hk hst hw (c_X10_isOutside l g what 0 1) (va_cwS 3 hts gX10_fits_X10_isOutside rfl rfl rfl hdS_X10_isOutside ⟨Nat.le_of_ble_eq_true rfl, Nat.le_of_ble_eq_true rfl⟩) [] rfl rfl rfl hl.1 rfl (Nat.le_of_ble_eq_true rfl) dX10_fits_21 ⟨Nat.zero_le _, Nat.zero_le _⟩ (W' := [cob lh 10 [.ref ak, .ref t, .ref yt, .ref xt, .int isk, .ref ltp, .ref lrw, .int (nI rc), .ref lac, .ref lsh, .ref lhh, .ref lhg, .ref lhr], cob t 8 [.ref ak, .ref tl, .ref tf, .ref ta, .ref tk, .ref tg, .ref tp, .ref tm, .int (nI cnt), .int (nI stp), .int z], cin g tl 4 laws, cin g tf 6 fogs, cin g ta 6 arms, cin g tk 8 kinds, cin g tg 8 faiths, cin g tp 8 places, cin g tm 8 moved, cob xt 8 [.ref ak, .ref xtl, .ref xtf, .ref xta, .ref xtk, .ref xtg, .ref xtp, .ref xtm, .int (nI xcnt), .int (nI xstp), .int xz], cin g xtl 4 xlaws, cin g xtf 6 xfogs, cin g xta 6 xarms, cin g xtk 8 xkinds, cin g xtg 8 xfaiths, cin g xtp 8 xplaces, cin g xtm 8 xmoved, ckd g ak 6 (kdf k0 k1 k2 k3 k4 k5), cob k0 4 [], cob k1 2 [], cob k2 5 [], cob k3 6 [], cob k4 9 [], cob k5 1 [], cit g lsh 4 sht, cob ia 3 [.int iso, .ref iv], cin g iv isz ivs]) rfl (fun H locs hw => ?_)
      refine lv_if_eq (tgt := 29) hx hb dX10_fits_24 (by decide) (fun c_3 => ?_) (fun c_3 => ?_)
      · refine lv_aload_n hx hb dX10_fits_29 rfl (lv_at hl 0 rfl) ?_
        refine rg hf hk hw hinX10 0 rfl rfl 9 (by decide) w_1 rfl dX10_fits_30 ?_
        refine lv_iload_n hx hb dX10_fits_33 rfl (lv_at hl 1 rfl) ?_
        refine lv_tope (y := nI (ix sheet)) hs.1 ?_
        refine rqj hf hk hw 24 rfl (j := ix sheet) (r := some ia) (vp_in_nI (by omega) (by omega)) (nI_clamp (by omega)) (hso) dX10_fits_34 ?_
        refine lv_astore (lv' := [(4, .ref ia), (0, .ref lh), (1, .int sheet), (2, .int goer), (3, .int what)]) hx hb dX10_fits_35 hl (by decide) rfl (fun ls hl => ?_)
        refine lv_aload hx hb dX10_fits_37 (lv_at hl 0 rfl) ?_
        refine lv_ifnonnull (tgt := 45) hx hb dX10_fits_39 (by decide) ?_
        refine lv_iconst (v := 0) hx hb dX10_fits_45 (by decide) ?_
        refine lv_istore (lv' := [(5, .int 0), (4, .ref ia), (0, .ref lh), (1, .int sheet), (2, .int goer), (3, .int what)]) hx hb dX10_fits_46 hl (by decide) rfl (fun ls hl => ?_)
        refine lv_bipush (v := (-3)) hx hb dX10_fits_48 (by decide) ?_
        refine lv_istore (lv' := [(6, .int (-3)), (5, .int 0), (4, .ref ia), (0, .ref lh), (1, .int sheet), (2, .int goer), (3, .int what)]) hx hb dX10_fits_50 hl (by decide) rfl (fun ls hl => ?_)
        refine lv_aload_n hx hb dX10_fits_52 rfl (lv_at hl 3 rfl) ?_
        refine rg hf hk hw hinX10 0 rfl rfl 3 (by decide) w_2 rfl dX10_fits_53 ?_
        refine lv_aload_n hx hb dX10_fits_56 rfl (lv_at hl 3 rfl) ?_
        refine rg hf hk hw hinX10 0 rfl rfl 1 (by decide) w_0 rfl dX10_fits_57 ?_
        refine mcV hf hk hst hw (c_X8_copyFrom l g xt xtl xtf xta xtk xtg xtp xtm xlaws xfogs xarms xkinds xfaiths xplaces xmoved xcnt xstp xz t tl tf ta tk tg tp tm laws fogs arms kinds faiths places moved cnt stp z ak (by omega)) (cwV 1 hts gX10_fits_X8_copyFrom rfl rfl rfl hdV_X8_copyFrom ⟨Nat.le_of_ble_eq_true rfl, Nat.le_of_ble_eq_true rfl⟩) [9, 10, 11, 12, 13, 14, 15, 16, 1, 2, 3, 4, 5, 6, 7, 8] rfl rfl 9 rfl rfl rfl hl.1 rfl (Nat.le_of_ble_eq_true rfl) dX10_fits_60 ⟨Nat.zero_le _, Nat.zero_le _⟩ (W' := [cob lh 10 [.ref ak, .ref t, .ref yt, .ref xt, .int isk, .ref ltp, .ref lrw, .int (nI rc), .ref lac, .ref lsh, .ref lhh, .ref lhg, .ref lhr], cob t 8 [.ref ak, .ref tl, .ref tf, .ref ta, .ref tk, .ref tg, .ref tp, .ref tm, .int (nI cnt), .int (nI stp), .int z], cin g tl 4 laws, cin g tf 6 fogs, cin g ta 6 arms, cin g tk 8 kinds, cin g tg 8 faiths, cin g tp 8 places, cin g tm 8 moved, cob xt 8 [.ref ak, .ref xtl, .ref xtf, .ref xta, .ref xtk, .ref xtg, .ref xtp, .ref xtm, .int (nI cnt), .int (nI stp), .int z], cin g xtl 4 laws, cin g xtf 6 fogs, cin g xta 6 arms, cin g xtk 8 (cpT xkinds kinds cnt), cin g xtg 8 (cpT xfaiths faiths cnt), cin g xtp 8 (cpT xplaces places cnt), cin g xtm 8 (cpT xmoved moved cnt), ckd g ak 6 (kdf k0 k1 k2 k3 k4 k5), cob k0 4 [], cob k1 2 [], cob k2 5 [], cob k3 6 [], cob k4 9 [], cob k5 1 [], cit g lsh 4 sht, cob ia 3 [.int iso, .ref iv], cin g iv isz ivs]) rfl (fun H locs hw => ?_)
        obtain ⟨ck, eck⟩ : ∃ x : Nat → Int32, x = cpT xkinds kinds cnt := ⟨_, rfl⟩
        rw [← eck] at hw
        obtain ⟨cf, ecf⟩ : ∃ x : Nat → Int32, x = cpT xfaiths faiths cnt := ⟨_, rfl⟩
        rw [← ecf] at hw
        obtain ⟨cp, ecp⟩ : ∃ x : Nat → Int32, x = cpT xplaces places cnt := ⟨_, rfl⟩
        rw [← ecp] at hw
        obtain ⟨cm, ecm⟩ : ∃ x : Nat → Int32, x = cpT xmoved moved cnt := ⟨_, rfl⟩
        rw [← ecm] at hw
        have hck := cp_k eck
        have hcf := cp_k ecf
        have hcp := cp_k ecp
        have hcm := cp_k ecm
        refine lv_bipush (v := 99) hx hb dX10_fits_63 (by decide) ?_
        refine lv_istore (lv' := [(7, .int 99), (6, .int (-3)), (5, .int 0), (4, .ref ia), (0, .ref lh), (1, .int sheet), (2, .int goer), (3, .int what)]) hx hb dX10_fits_65 hl (by decide) rfl (fun ls hl => ?_)
        have lp_67_3 : ∀ (fu k : Nat) (jk : Nat → Int32) (jf : Nat → Int32) (jp : Nat → Int32) (jm : Nat → Int32), k ≤ 100 → 100 + 1 ≤ k + fu → ∀ (H : Heap) (locs : List Loc), hv g (va_I [cob lh 10 [.ref ak, .ref t, .ref yt, .ref xt, .int isk, .ref ltp, .ref lrw, .int (nI rc), .ref lac, .ref lsh, .ref lhh, .ref lhg, .ref lhr], cob t 8 [.ref ak, .ref tl, .ref tf, .ref ta, .ref tk, .ref tg, .ref tp, .ref tm, .int (nI cnt), .int (nI stp), .int z], cin g tl 4 laws, cin g tf 6 fogs, cin g ta 6 arms, cin g tk 8 kinds, cin g tg 8 faiths, cin g tp 8 places, cin g tm 8 moved, cob xt 8 [.ref ak, .ref xtl, .ref xtf, .ref xta, .ref xtk, .ref xtg, .ref xtp, .ref xtm, .int (nI xcnt), .int (nI xstp), .int xz], cin g xtl 4 xlaws, cin g xtf 6 xfogs, cin g xta 6 xarms, cin g xtk 8 xkinds, cin g xtg 8 xfaiths, cin g xtp 8 xplaces, cin g xtm 8 xmoved, ckd g ak 6 (kdf k0 k1 k2 k3 k4 k5), cob k0 4 [], cob k1 2 [], cob k2 5 [], cob k3 6 [], cob k4 9 [], cob k5 1 [], cit g lsh 4 sht, cob ia 3 [.int iso, .ref iv], cin g iv isz ivs]) s H locs [cob lh 10 [.ref ak, .ref t, .ref yt, .ref xt, .int isk, .ref ltp, .ref lrw, .int (nI rc), .ref lac, .ref lsh, .ref lhh, .ref lhg, .ref lhr], cob t 8 [.ref ak, .ref tl, .ref tf, .ref ta, .ref tk, .ref tg, .ref tp, .ref tm, .int (nI cnt), .int (nI stp), .int z], cin g tl 4 laws, cin g tf 6 fogs, cin g ta 6 arms, cin g tk 8 kinds, cin g tg 8 faiths, cin g tp 8 places, cin g tm 8 moved, cob xt 8 [.ref ak, .ref xtl, .ref xtf, .ref xta, .ref xtk, .ref xtg, .ref xtp, .ref xtm, .int (nI cnt), .int (nI stp), .int z], cin g xtl 4 laws, cin g xtf 6 fogs, cin g xta 6 arms, cin g xtk 8 jk, cin g xtg 8 jf, cin g xtp 8 jp, cin g xtm 8 jm, ckd g ak 6 (kdf k0 k1 k2 k3 k4 k5), cob k0 4 [], cob k1 2 [], cob k2 5 [], cob k3 6 [], cob k4 9 [], cob k5 1 [], cit g lsh 4 sht, cob ia 3 [.int iso, .ref iv], cin g iv isz ivs] → ∀ ls : Array Slot, lv_has ls 8 [(7, .int (nI (100 - k) - 1)), (6, .int ((fitR (fitQ laws fogs arms (kinds (ix goer)) stp (places (ix goer)) (moved (ix goer)) ivs isz) k).2)), (5, .int (nI (fitR (fitQ laws fogs arms (kinds (ix goer)) stp (places (ix goer)) (moved (ix goer)) ivs isz) k).1)), (4, .ref ia), (0, .ref lh), (1, .int sheet), (2, .int goer), (3, .int what)] → W p l e rmX10_fits_s s m ([.ref lh, .int sheet, .int goer, .int what] : List Value).toArray below meth c H locs 0 0 (MQ below (mtS g [cob lh 10 [.ref ak, .ref t, .ref yt, .ref xt, .int isk, .ref ltp, .ref lrw, .int (nI rc), .ref lac, .ref lsh, .ref lhh, .ref lhg, .ref lhr], cob t 8 [.ref ak, .ref tl, .ref tf, .ref ta, .ref tk, .ref tg, .ref tp, .ref tm, .int (nI cnt), .int (nI stp), .int z], cin g tl 4 laws, cin g tf 6 fogs, cin g ta 6 arms, cin g tk 8 kinds, cin g tg 8 faiths, cin g tp 8 places, cin g tm 8 moved, cob xt 8 [.ref ak, .ref xtl, .ref xtf, .ref xta, .ref xtk, .ref xtg, .ref xtp, .ref xtm, .int (nI xcnt), .int (nI xstp), .int xz], cin g xtl 4 xlaws, cin g xtf 6 xfogs, cin g xta 6 xarms, cin g xtk 8 xkinds, cin g xtg 8 xfaiths, cin g xtp 8 xplaces, cin g xtm 8 xmoved, ckd g ak 6 (kdf k0 k1 k2 k3 k4 k5), cob k0 4 [], cob k1 2 [], cob k2 5 [], cob k3 6 [], cob k4 9 [], cob k5 1 [], cit g lsh 4 sht, cob ia 3 [.int iso, .ref iv], cin g iv isz ivs] (fun rv W => rv = (some (.int (if f_X10_isOutside sheet 0 3 = 0 then (if f_X8_has cnt goer = 0 then -1 else if f_X10_isOutside what 0 1 = 0 then (if what = 0 then nI (fitR (fitQ laws fogs arms (kinds (ix goer)) stp (places (ix goer)) (moved (ix goer)) ivs isz) 100).1 else (fitR (fitQ laws fogs arms (kinds (ix goer)) stp (places (ix goer)) (moved (ix goer)) ivs isz) 100).2) else -1) else -1))) ∧ ∃ (j0 : Nat) (j1 : Nat) (j2 : Int32) (j3 : Nat → Int32) (j4 : Nat → Int32) (j5 : Nat → Int32) (j6 : Nat → Int32) (j7 : Nat → Int32) (j8 : Nat → Int32) (j9 : Nat → Int32), W = [cob lh 10 [.ref ak, .ref t, .ref yt, .ref xt, .int isk, .ref ltp, .ref lrw, .int (nI rc), .ref lac, .ref lsh, .ref lhh, .ref lhg, .ref lhr], cob t 8 [.ref ak, .ref tl, .ref tf, .ref ta, .ref tk, .ref tg, .ref tp, .ref tm, .int (nI cnt), .int (nI stp), .int z], cin g tl 4 laws, cin g tf 6 fogs, cin g ta 6 arms, cin g tk 8 kinds, cin g tg 8 faiths, cin g tp 8 places, cin g tm 8 moved, cob xt 8 [.ref ak, .ref xtl, .ref xtf, .ref xta, .ref xtk, .ref xtg, .ref xtp, .ref xtm, .int (nI j0), .int (nI j1), .int j2], cin g xtl 4 j3, cin g xtf 6 j4, cin g xta 6 j5, cin g xtk 8 j6, cin g xtg 8 j7, cin g xtp 8 j8, cin g xtm 8 j9, ckd g ak 6 (kdf k0 k1 k2 k3 k4 k5), cob k0 4 [], cob k1 2 [], cob k2 5 [], cob k3 6 [], cob k4 9 [], cob k5 1 [], cit g lsh 4 sht, cob ia 3 [.int iso, .ref iv], cin g iv isz ivs])) ([.ref lh, .int sheet, .int goer, .int what] : List Value).toArray s 0 0 (va_I [cob lh 10 [.ref ak, .ref t, .ref yt, .ref xt, .int isk, .ref ltp, .ref lrw, .int (nI rc), .ref lac, .ref lsh, .ref lhh, .ref lhg, .ref lhr], cob t 8 [.ref ak, .ref tl, .ref tf, .ref ta, .ref tk, .ref tg, .ref tp, .ref tm, .int (nI cnt), .int (nI stp), .int z], cin g tl 4 laws, cin g tf 6 fogs, cin g ta 6 arms, cin g tk 8 kinds, cin g tg 8 faiths, cin g tp 8 places, cin g tm 8 moved, cob xt 8 [.ref ak, .ref xtl, .ref xtf, .ref xta, .ref xtk, .ref xtg, .ref xtp, .ref xtm, .int (nI xcnt), .int (nI xstp), .int xz], cin g xtl 4 xlaws, cin g xtf 6 xfogs, cin g xta 6 xarms, cin g xtk 8 xkinds, cin g xtg 8 xfaiths, cin g xtp 8 xplaces, cin g xtm 8 xmoved, ckd g ak 6 (kdf k0 k1 k2 k3 k4 k5), cob k0 4 [], cob k1 2 [], cob k2 5 [], cob k3 6 [], cob k4 9 [], cob k5 1 [], cit g lsh 4 sht, cob ia 3 [.int iso, .ref iv], cin g iv isz ivs])) (F0 m 67 ls []) := by
          intro fu
          induction fu with
          | zero =>
            intro k jk jf jp jm h1 h2
            exact absurd h2 (by omega)
          | succ fu ih_67 =>
            intro k jk jf jp jm hk1_67 hk2_67 H locs hw ls hl
            refine lv_iload hx hb dX10_fits_67 (lv_at hl 0 rfl) ?_
            refine lv_if_lt (tgt := 124) hx hb dX10_fits_69 (by decide) (fun c_5 => ?_) (fun c_5 => ?_)
            · have hkE : k = 100 := hd_end hk1_67 c_5
              refine lv_iload_n hx hb dX10_fits_124 rfl (lv_at hl 7 rfl) ?_
              refine lv_if_ne (tgt := 133) hx hb dX10_fits_125 (by decide) (fun c_6 => ?_) (fun c_6 => ?_)
              · refine lv_iload hx hb dX10_fits_133 (lv_at hl 1 rfl) ?_
                exact rE_i hf hr hlk hw ⟨congrArg some (by simp only [if_pos c_1, if_neg c_2, if_pos c_3, if_neg c_6, hkE]), _, _, _, _, _, _, _, _, _, _, rfl⟩ (show ([lh, t, tl, tf, ta, tk, tg, tp, tm, xt, xtl, xtf, xta, xtk, xtg, xtp, xtm, ak, k0, k1, k2, k3, k4, k5, lsh, ia, iv] : List Nat) = [lh, t, tl, tf, ta, tk, tg, tp, tm, xt, xtl, xtf, xta, xtk, xtg, xtp, xtm, ak, k0, k1, k2, k3, k4, k5, lsh, ia, iv] from rfl) dX10_fits_135
              · refine lv_iload hx hb dX10_fits_128 (lv_at hl 2 rfl) ?_
                refine lv_goto (tgt := 135) hx hb dX10_fits_130 (by decide) ?_
                exact rE_i hf hr hlk hw ⟨congrArg some (by simp only [if_pos c_1, if_neg c_2, if_pos c_3, if_pos c_6, hkE]), _, _, _, _, _, _, _, _, _, _, rfl⟩ (show ([lh, t, tl, tf, ta, tk, tg, tp, tm, xt, xtl, xtf, xta, xtk, xtg, xtp, xtm, ak, k0, k1, k2, k3, k4, k5, lsh, ia, iv] : List Nat) = [lh, t, tl, tf, ta, tk, tg, tp, tm, xt, xtl, xtf, xta, xtk, xtg, xtp, xtm, ak, k0, k1, k2, k3, k4, k5, lsh, ia, iv] from rfl) dX10_fits_135
            · have hkE : k < 100 := hd_go c_5
              refine lv_aload_n hx hb dX10_fits_72 rfl (lv_at hl 4 rfl) ?_
              refine rg hf hk hw hinX10 0 rfl rfl 3 (by decide) w_2 rfl dX10_fits_73 ?_
              refine lv_aload_n hx hb dX10_fits_76 rfl (lv_at hl 4 rfl) ?_
              refine rg hf hk hw hinX10 0 rfl rfl 1 (by decide) w_0 rfl dX10_fits_77 ?_
              refine lv_iload_n hx hb dX10_fits_80 rfl (lv_at hl 6 rfl) ?_
              refine lv_tope (y := nI (ix goer)) hg.1 ?_
              refine mcV hf hk hst hw (c_X8_copyGoer l g xt xtl xtf xta xtk xtg xtp xtm jk jf jp jm cnt stp z t tl tf ta tk tg tp tm kinds faiths places moved cnt stp z ak (ix goer) (by omega)) (cwV 2 hts gX10_fits_X8_copyGoer rfl rfl rfl hdV_X8_copyGoer ⟨Nat.le_of_ble_eq_true rfl, Nat.le_of_ble_eq_true rfl⟩) [9, 13, 14, 15, 16, 1, 5, 6, 7, 8] rfl rfl 9 rfl rfl rfl hl.1 rfl (Nat.le_of_ble_eq_true rfl) dX10_fits_81 ⟨Nat.zero_le _, Nat.zero_le _⟩ (W' := [cob lh 10 [.ref ak, .ref t, .ref yt, .ref xt, .int isk, .ref ltp, .ref lrw, .int (nI rc), .ref lac, .ref lsh, .ref lhh, .ref lhg, .ref lhr], cob t 8 [.ref ak, .ref tl, .ref tf, .ref ta, .ref tk, .ref tg, .ref tp, .ref tm, .int (nI cnt), .int (nI stp), .int z], cin g tl 4 laws, cin g tf 6 fogs, cin g ta 6 arms, cin g tk 8 kinds, cin g tg 8 faiths, cin g tp 8 places, cin g tm 8 moved, cob xt 8 [.ref ak, .ref xtl, .ref xtf, .ref xta, .ref xtk, .ref xtg, .ref xtp, .ref xtm, .int (nI cnt), .int (nI stp), .int z], cin g xtl 4 laws, cin g xtf 6 fogs, cin g xta 6 arms, cin g xtk 8 (upd jk (ix goer) (kinds (ix goer))), cin g xtg 8 (upd jf (ix goer) (faiths (ix goer))), cin g xtp 8 (upd jp (ix goer) (places (ix goer))), cin g xtm 8 (upd jm (ix goer) (moved (ix goer))), ckd g ak 6 (kdf k0 k1 k2 k3 k4 k5), cob k0 4 [], cob k1 2 [], cob k2 5 [], cob k3 6 [], cob k4 9 [], cob k5 1 [], cit g lsh 4 sht, cob ia 3 [.int iso, .ref iv], cin g iv isz ivs]) rfl (fun H locs hw => ?_)
              refine lv_aload_n hx hb dX10_fits_84 rfl (lv_at hl 4 rfl) ?_
              refine rg hf hk hw hinX10 0 rfl rfl 3 (by decide) w_2 rfl dX10_fits_85 ?_
              refine rg hf hk hw hinX8 9 rfl rfl 5 (by decide) w_3 rfl dX10_fits_88 ?_
              refine lv_iload_n hx hb dX10_fits_91 rfl (lv_at hl 6 rfl) ?_
              refine lv_tope (y := nI (ix goer)) hg.1 ?_
              refine lv_iload hx hb dX10_fits_92 (lv_at hl 0 rfl) ?_
              refine lv_tope (y := nI (99 - k)) (hd_p1 hkE) ?_
              refine rsj hf hk hw 14 rfl (j := ix goer) (vp_in_nI (by omega) (by omega)) (nI_clamp (by omega)) dX10_fits_94 (W' := [cob lh 10 [.ref ak, .ref t, .ref yt, .ref xt, .int isk, .ref ltp, .ref lrw, .int (nI rc), .ref lac, .ref lsh, .ref lhh, .ref lhg, .ref lhr], cob t 8 [.ref ak, .ref tl, .ref tf, .ref ta, .ref tk, .ref tg, .ref tp, .ref tm, .int (nI cnt), .int (nI stp), .int z], cin g tl 4 laws, cin g tf 6 fogs, cin g ta 6 arms, cin g tk 8 kinds, cin g tg 8 faiths, cin g tp 8 places, cin g tm 8 moved, cob xt 8 [.ref ak, .ref xtl, .ref xtf, .ref xta, .ref xtk, .ref xtg, .ref xtp, .ref xtm, .int (nI cnt), .int (nI stp), .int z], cin g xtl 4 laws, cin g xtf 6 fogs, cin g xta 6 arms, cin g xtk 8 (upd jk (ix goer) (kinds (ix goer))), cin g xtg 8 (upd (upd jf (ix goer) (faiths (ix goer))) (ix goer) (nI (99 - k))), cin g xtp 8 (upd jp (ix goer) (places (ix goer))), cin g xtm 8 (upd jm (ix goer) (moved (ix goer))), ckd g ak 6 (kdf k0 k1 k2 k3 k4 k5), cob k0 4 [], cob k1 2 [], cob k2 5 [], cob k3 6 [], cob k4 9 [], cob k5 1 [], cit g lsh 4 sht, cob ia 3 [.int iso, .ref iv], cin g iv isz ivs]) rfl (fun H locs hw => ?_)
              refine lv_aload_n hx hb dX10_fits_95 rfl (lv_at hl 4 rfl) ?_
              refine rg hf hk hw hinX10 0 rfl rfl 3 (by decide) w_2 rfl dX10_fits_96 ?_
              refine lv_iload_n hx hb dX10_fits_99 rfl (lv_at hl 6 rfl) ?_
              refine lv_tope (y := nI (ix goer)) hg.1 ?_
              refine lv_aload hx hb dX10_fits_100 (lv_at hl 3 rfl) ?_
              refine rg hf hk hw hinX3 25 rfl rfl 1 (by decide) w_4 rfl dX10_fits_102 ?_
              refine mcV hf hk hst hw (c_X8_goesBy l g xt xtl xtf xta xtk xtg xtp xtm laws fogs arms (upd jk (ix goer) (kinds (ix goer))) (upd (upd jf (ix goer) (faiths (ix goer))) (ix goer) (nI (99 - k))) (upd jp (ix goer) (places (ix goer))) (upd jm (ix goer) (moved (ix goer))) cnt stp z ak k0 k1 k2 k3 k4 k5 (ix goer) iv isz ivs (by omega) (by omega) (by omega) (by rw [pk_us]; exact hkd _ hg2)) (cwV 2 hts gX10_fits_X8_goesBy rfl rfl rfl hdV_X8_goesBy ⟨Nat.le_of_ble_eq_true rfl, Nat.le_of_ble_eq_true rfl⟩) [9, 10, 11, 12, 13, 14, 15, 16, 17, 18, 19, 20, 21, 22, 23, 26] rfl rfl 9 rfl rfl rfl hl.1 rfl (Nat.le_of_ble_eq_true rfl) dX10_fits_105 ⟨Nat.zero_le _, Nat.zero_le _⟩ (W' := [cob lh 10 [.ref ak, .ref t, .ref yt, .ref xt, .int isk, .ref ltp, .ref lrw, .int (nI rc), .ref lac, .ref lsh, .ref lhh, .ref lhg, .ref lhr], cob t 8 [.ref ak, .ref tl, .ref tf, .ref ta, .ref tk, .ref tg, .ref tp, .ref tm, .int (nI cnt), .int (nI stp), .int z], cin g tl 4 laws, cin g tf 6 fogs, cin g ta 6 arms, cin g tk 8 kinds, cin g tg 8 faiths, cin g tp 8 places, cin g tm 8 moved, cob xt 8 [.ref ak, .ref xtl, .ref xtf, .ref xta, .ref xtk, .ref xtg, .ref xtp, .ref xtm, .int (nI cnt), .int (nI stp), .int z], cin g xtl 4 laws, cin g xtf 6 fogs, cin g xta 6 arms, cin g xtk 8 (upd jk (ix goer) (kinds (ix goer))), cin g xtg 8 (upd (upd (upd jf (ix goer) (faiths (ix goer))) (ix goer) (nI (99 - k))) (ix goer) (itG laws fogs arms ((upd jk (ix goer) (kinds (ix goer))) (ix goer)) stp ((upd (upd jf (ix goer) (faiths (ix goer))) (ix goer) (nI (99 - k))) (ix goer)) ((upd jp (ix goer) (places (ix goer))) (ix goer)) ((upd jm (ix goer) (moved (ix goer))) (ix goer)) (gbS ivs (itP laws fogs arms ((upd jk (ix goer) (kinds (ix goer))) (ix goer)) stp ((upd (upd jf (ix goer) (faiths (ix goer))) (ix goer) (nI (99 - k))) (ix goer)) ((upd jp (ix goer) (places (ix goer))) (ix goer)) ((upd jm (ix goer) (moved (ix goer))) (ix goer))) isz 0)).1), cin g xtp 8 (upd (upd jp (ix goer) (places (ix goer))) (ix goer) (itG laws fogs arms ((upd jk (ix goer) (kinds (ix goer))) (ix goer)) stp ((upd (upd jf (ix goer) (faiths (ix goer))) (ix goer) (nI (99 - k))) (ix goer)) ((upd jp (ix goer) (places (ix goer))) (ix goer)) ((upd jm (ix goer) (moved (ix goer))) (ix goer)) (gbS ivs (itP laws fogs arms ((upd jk (ix goer) (kinds (ix goer))) (ix goer)) stp ((upd (upd jf (ix goer) (faiths (ix goer))) (ix goer) (nI (99 - k))) (ix goer)) ((upd jp (ix goer) (places (ix goer))) (ix goer)) ((upd jm (ix goer) (moved (ix goer))) (ix goer))) isz 0)).2.1), cin g xtm 8 (upd (upd jm (ix goer) (moved (ix goer))) (ix goer) (itG laws fogs arms ((upd jk (ix goer) (kinds (ix goer))) (ix goer)) stp ((upd (upd jf (ix goer) (faiths (ix goer))) (ix goer) (nI (99 - k))) (ix goer)) ((upd jp (ix goer) (places (ix goer))) (ix goer)) ((upd jm (ix goer) (moved (ix goer))) (ix goer)) (gbS ivs (itP laws fogs arms ((upd jk (ix goer) (kinds (ix goer))) (ix goer)) stp ((upd (upd jf (ix goer) (faiths (ix goer))) (ix goer) (nI (99 - k))) (ix goer)) ((upd jp (ix goer) (places (ix goer))) (ix goer)) ((upd jm (ix goer) (moved (ix goer))) (ix goer))) isz 0)).2.2), ckd g ak 6 (kdf k0 k1 k2 k3 k4 k5), cob k0 4 [], cob k1 2 [], cob k2 5 [], cob k3 6 [], cob k4 9 [], cob k5 1 [], cit g lsh 4 sht, cob ia 3 [.int iso, .ref iv], cin g iv isz ivs]) rfl (fun H locs hw => ?_)
              refine lv_tope (y := (fitQ laws fogs arms (kinds (ix goer)) stp (places (ix goer)) (moved (ix goer)) ivs isz) (99 - k)) (by rw [pk_us, pk_us, pk_us, pk_us]; rfl) ?_
              refine lv_if_eq (tgt := 118) hx hb dX10_fits_108 (by decide) (fun c_7 => ?_) (fun c_7 => ?_)
              · refine lv_iinc (v := nI (100 - (k + 1)) - 1) (lv' := [(7, .int (nI (100 - (k + 1)) - 1)), (6, .int ((fitR (fitQ laws fogs arms (kinds (ix goer)) stp (places (ix goer)) (moved (ix goer)) ivs isz) k).2)), (5, .int (nI (fitR (fitQ laws fogs arms (kinds (ix goer)) stp (places (ix goer)) (moved (ix goer)) ivs isz) k).1)), (4, .ref ia), (0, .ref lh), (1, .int sheet), (2, .int goer), (3, .int what)]) hx hb dX10_fits_118 hl (k := 0) rfl (by rw [ad1, hd_p1 hkE, show 100 - (k + 1) = 99 - k by omega]) (by decide) rfl (fun ls hl => ?_)
                refine lv_goto (tgt := 67) hx hb dX10_fits_121 (by decide) ?_
                have e_1 : (fitR (fitQ laws fogs arms (kinds (ix goer)) stp (places (ix goer)) (moved (ix goer)) ivs isz) k).2 = (fitR (fitQ laws fogs arms (kinds (ix goer)) stp (places (ix goer)) (moved (ix goer)) ivs isz) (k + 1)).2 := (congrArg Prod.snd (if_pos (show (fitQ laws fogs arms (kinds (ix goer)) stp (places (ix goer)) (moved (ix goer)) ivs isz) (99 - k) = 0 from c_7) : (if (fitQ laws fogs arms (kinds (ix goer)) stp (places (ix goer)) (moved (ix goer)) ivs isz) (99 - k) = 0 then fitR (fitQ laws fogs arms (kinds (ix goer)) stp (places (ix goer)) (moved (ix goer)) ivs isz) k else ((fitR (fitQ laws fogs arms (kinds (ix goer)) stp (places (ix goer)) (moved (ix goer)) ivs isz) k).1 + 1, nI (99 - k))) = _)).symm
                rw [e_1] at hl
                have e_2 : nI (fitR (fitQ laws fogs arms (kinds (ix goer)) stp (places (ix goer)) (moved (ix goer)) ivs isz) k).1 = nI (fitR (fitQ laws fogs arms (kinds (ix goer)) stp (places (ix goer)) (moved (ix goer)) ivs isz) (k + 1)).1 := (congrArg (fun x => nI x.1) (if_pos (show (fitQ laws fogs arms (kinds (ix goer)) stp (places (ix goer)) (moved (ix goer)) ivs isz) (99 - k) = 0 from c_7) : (if (fitQ laws fogs arms (kinds (ix goer)) stp (places (ix goer)) (moved (ix goer)) ivs isz) (99 - k) = 0 then fitR (fitQ laws fogs arms (kinds (ix goer)) stp (places (ix goer)) (moved (ix goer)) ivs isz) k else ((fitR (fitQ laws fogs arms (kinds (ix goer)) stp (places (ix goer)) (moved (ix goer)) ivs isz) k).1 + 1, nI (99 - k))) = _)).symm
                rw [e_2] at hl
                exact ih_67 (k + 1) (upd jk (ix goer) (kinds (ix goer))) (upd (upd (upd jf (ix goer) (faiths (ix goer))) (ix goer) (nI (99 - k))) (ix goer) (itG laws fogs arms ((upd jk (ix goer) (kinds (ix goer))) (ix goer)) stp ((upd (upd jf (ix goer) (faiths (ix goer))) (ix goer) (nI (99 - k))) (ix goer)) ((upd jp (ix goer) (places (ix goer))) (ix goer)) ((upd jm (ix goer) (moved (ix goer))) (ix goer)) (gbS ivs (itP laws fogs arms ((upd jk (ix goer) (kinds (ix goer))) (ix goer)) stp ((upd (upd jf (ix goer) (faiths (ix goer))) (ix goer) (nI (99 - k))) (ix goer)) ((upd jp (ix goer) (places (ix goer))) (ix goer)) ((upd jm (ix goer) (moved (ix goer))) (ix goer))) isz 0)).1) (upd (upd jp (ix goer) (places (ix goer))) (ix goer) (itG laws fogs arms ((upd jk (ix goer) (kinds (ix goer))) (ix goer)) stp ((upd (upd jf (ix goer) (faiths (ix goer))) (ix goer) (nI (99 - k))) (ix goer)) ((upd jp (ix goer) (places (ix goer))) (ix goer)) ((upd jm (ix goer) (moved (ix goer))) (ix goer)) (gbS ivs (itP laws fogs arms ((upd jk (ix goer) (kinds (ix goer))) (ix goer)) stp ((upd (upd jf (ix goer) (faiths (ix goer))) (ix goer) (nI (99 - k))) (ix goer)) ((upd jp (ix goer) (places (ix goer))) (ix goer)) ((upd jm (ix goer) (moved (ix goer))) (ix goer))) isz 0)).2.1) (upd (upd jm (ix goer) (moved (ix goer))) (ix goer) (itG laws fogs arms ((upd jk (ix goer) (kinds (ix goer))) (ix goer)) stp ((upd (upd jf (ix goer) (faiths (ix goer))) (ix goer) (nI (99 - k))) (ix goer)) ((upd jp (ix goer) (places (ix goer))) (ix goer)) ((upd jm (ix goer) (moved (ix goer))) (ix goer)) (gbS ivs (itP laws fogs arms ((upd jk (ix goer) (kinds (ix goer))) (ix goer)) stp ((upd (upd jf (ix goer) (faiths (ix goer))) (ix goer) (nI (99 - k))) (ix goer)) ((upd jp (ix goer) (places (ix goer))) (ix goer)) ((upd jm (ix goer) (moved (ix goer))) (ix goer))) isz 0)).2.2) (by omega) (by omega) _ _ hw _ (lv_sub hl [0, 1, 2, 3, 4, 5, 6, 7] rfl)
              · refine lv_iinc (v := nI ((fitR (fitQ laws fogs arms (kinds (ix goer)) stp (places (ix goer)) (moved (ix goer)) ivs isz) k).1 + 1)) (lv' := [(5, .int (nI ((fitR (fitQ laws fogs arms (kinds (ix goer)) stp (places (ix goer)) (moved (ix goer)) ivs isz) k).1 + 1))), (7, .int (nI (100 - k) - 1)), (6, .int ((fitR (fitQ laws fogs arms (kinds (ix goer)) stp (places (ix goer)) (moved (ix goer)) ivs isz) k).2)), (4, .ref ia), (0, .ref lh), (1, .int sheet), (2, .int goer), (3, .int what)]) hx hb dX10_fits_111 hl (k := 2) rfl (nI_1 _) (by decide) rfl (fun ls hl => ?_)
                refine lv_iload hx hb dX10_fits_114 (lv_at hl 1 rfl) ?_
                refine lv_tope (y := nI (99 - k)) (hd_p1 hkE) ?_
                refine lv_istore (lv' := [(6, .int (nI (99 - k))), (5, .int (nI ((fitR (fitQ laws fogs arms (kinds (ix goer)) stp (places (ix goer)) (moved (ix goer)) ivs isz) k).1 + 1))), (7, .int (nI (100 - k) - 1)), (4, .ref ia), (0, .ref lh), (1, .int sheet), (2, .int goer), (3, .int what)]) hx hb dX10_fits_116 hl (by decide) rfl (fun ls hl => ?_)
                refine lv_iinc (v := nI (100 - (k + 1)) - 1) (lv' := [(7, .int (nI (100 - (k + 1)) - 1)), (6, .int (nI (99 - k))), (5, .int (nI ((fitR (fitQ laws fogs arms (kinds (ix goer)) stp (places (ix goer)) (moved (ix goer)) ivs isz) k).1 + 1))), (4, .ref ia), (0, .ref lh), (1, .int sheet), (2, .int goer), (3, .int what)]) hx hb dX10_fits_118 hl (k := 2) rfl (by rw [ad1, hd_p1 hkE, show 100 - (k + 1) = 99 - k by omega]) (by decide) rfl (fun ls hl => ?_)
                refine lv_goto (tgt := 67) hx hb dX10_fits_121 (by decide) ?_
                have e_1 : nI (99 - k) = (fitR (fitQ laws fogs arms (kinds (ix goer)) stp (places (ix goer)) (moved (ix goer)) ivs isz) (k + 1)).2 := (congrArg Prod.snd (if_neg (show ¬ (fitQ laws fogs arms (kinds (ix goer)) stp (places (ix goer)) (moved (ix goer)) ivs isz) (99 - k) = 0 from c_7) : (if (fitQ laws fogs arms (kinds (ix goer)) stp (places (ix goer)) (moved (ix goer)) ivs isz) (99 - k) = 0 then fitR (fitQ laws fogs arms (kinds (ix goer)) stp (places (ix goer)) (moved (ix goer)) ivs isz) k else ((fitR (fitQ laws fogs arms (kinds (ix goer)) stp (places (ix goer)) (moved (ix goer)) ivs isz) k).1 + 1, nI (99 - k))) = _)).symm
                rw [e_1] at hl
                have e_2 : nI ((fitR (fitQ laws fogs arms (kinds (ix goer)) stp (places (ix goer)) (moved (ix goer)) ivs isz) k).1 + 1) = nI (fitR (fitQ laws fogs arms (kinds (ix goer)) stp (places (ix goer)) (moved (ix goer)) ivs isz) (k + 1)).1 := (congrArg (fun x => nI x.1) (if_neg (show ¬ (fitQ laws fogs arms (kinds (ix goer)) stp (places (ix goer)) (moved (ix goer)) ivs isz) (99 - k) = 0 from c_7) : (if (fitQ laws fogs arms (kinds (ix goer)) stp (places (ix goer)) (moved (ix goer)) ivs isz) (99 - k) = 0 then fitR (fitQ laws fogs arms (kinds (ix goer)) stp (places (ix goer)) (moved (ix goer)) ivs isz) k else ((fitR (fitQ laws fogs arms (kinds (ix goer)) stp (places (ix goer)) (moved (ix goer)) ivs isz) k).1 + 1, nI (99 - k))) = _)).symm
                rw [e_2] at hl
                exact ih_67 (k + 1) (upd jk (ix goer) (kinds (ix goer))) (upd (upd (upd jf (ix goer) (faiths (ix goer))) (ix goer) (nI (99 - k))) (ix goer) (itG laws fogs arms ((upd jk (ix goer) (kinds (ix goer))) (ix goer)) stp ((upd (upd jf (ix goer) (faiths (ix goer))) (ix goer) (nI (99 - k))) (ix goer)) ((upd jp (ix goer) (places (ix goer))) (ix goer)) ((upd jm (ix goer) (moved (ix goer))) (ix goer)) (gbS ivs (itP laws fogs arms ((upd jk (ix goer) (kinds (ix goer))) (ix goer)) stp ((upd (upd jf (ix goer) (faiths (ix goer))) (ix goer) (nI (99 - k))) (ix goer)) ((upd jp (ix goer) (places (ix goer))) (ix goer)) ((upd jm (ix goer) (moved (ix goer))) (ix goer))) isz 0)).1) (upd (upd jp (ix goer) (places (ix goer))) (ix goer) (itG laws fogs arms ((upd jk (ix goer) (kinds (ix goer))) (ix goer)) stp ((upd (upd jf (ix goer) (faiths (ix goer))) (ix goer) (nI (99 - k))) (ix goer)) ((upd jp (ix goer) (places (ix goer))) (ix goer)) ((upd jm (ix goer) (moved (ix goer))) (ix goer)) (gbS ivs (itP laws fogs arms ((upd jk (ix goer) (kinds (ix goer))) (ix goer)) stp ((upd (upd jf (ix goer) (faiths (ix goer))) (ix goer) (nI (99 - k))) (ix goer)) ((upd jp (ix goer) (places (ix goer))) (ix goer)) ((upd jm (ix goer) (moved (ix goer))) (ix goer))) isz 0)).2.1) (upd (upd jm (ix goer) (moved (ix goer))) (ix goer) (itG laws fogs arms ((upd jk (ix goer) (kinds (ix goer))) (ix goer)) stp ((upd (upd jf (ix goer) (faiths (ix goer))) (ix goer) (nI (99 - k))) (ix goer)) ((upd jp (ix goer) (places (ix goer))) (ix goer)) ((upd jm (ix goer) (moved (ix goer))) (ix goer)) (gbS ivs (itP laws fogs arms ((upd jk (ix goer) (kinds (ix goer))) (ix goer)) stp ((upd (upd jf (ix goer) (faiths (ix goer))) (ix goer) (nI (99 - k))) (ix goer)) ((upd jp (ix goer) (places (ix goer))) (ix goer)) ((upd jm (ix goer) (moved (ix goer))) (ix goer))) isz 0)).2.2) (by omega) (by omega) _ _ hw _ (lv_sub hl [0, 1, 2, 3, 4, 5, 6, 7] rfl)
        exact lp_67_3 (100 + 1) 0 ck cf cp cm (by omega) (by omega) _ _ hw _ (lv_sub hl [0, 1, 2, 3, 4, 5, 6, 7] rfl)
      · refine lv_iconst (v := (-1)) hx hb dX10_fits_27 (by decide) ?_
        exact rE_i hf hr hlk hw ⟨congrArg some (by simp only [if_pos c_1, if_neg c_2, if_neg c_3]), _, _, _, _, _, _, _, _, _, _, rfl⟩ (show ([lh, t, tl, tf, ta, tk, tg, tp, tm, xt, xtl, xtf, xta, xtk, xtg, xtp, xtm, ak, k0, k1, k2, k3, k4, k5, lsh, ia, iv] : List Nat) = [lh, t, tl, tf, ta, tk, tg, tp, tm, xt, xtl, xtf, xta, xtk, xtg, xtp, xtm, ak, k0, k1, k2, k3, k4, k5, lsh, ia, iv] from rfl) dX10_fits_28
