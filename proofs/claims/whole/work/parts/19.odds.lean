section CORE5
variable {p : Program} {l : Launch} {e : Env} {R : Room} {s : State} {m : MethodId} {args : Array Value} {below : List Frame} {meth : Method} {c : Code} {H : Heap} {locs : List Loc} {cells slots : Nat} {Q : State → Prop}
variable {cc : ByteArray} {nL pc : Nat} {Ts : List Cond} {own : String} {ls : Array Slot} {rest : List Value} {g : GG} {A : Nat → Prop} {W0 : va_W} {a : Nat}
theorem rtj (hf : CallFix p m c cc nL s args Ts own) (hk : kk g s) (hw : hv g A s H locs W0) (q0 : Nat) {n : Nat} {f : Nat → Int32} (ha : W0[q0]? = some (a, .inl (gB g, n, .inl f))) {i x : Int32} {j : Nat} (hin : vp_in i n) (hj : i.toNatClampNeg = j) (hdg : decode cc pc = .ok (.bastore, 1)) {W' : va_W} (hW' : W0.set q0 (a, .inl (gB g, n, .inl (upd f j (vp_nar .byte x)))) = W')
    (kk : ∀ (H1 : Heap) (locs1 : List Loc), hv g A s H1 locs1 W' → W p l e R s m args below meth c H1 locs1 cells slots Q (F0 m (pc + 1) ls rest)) : W p l e R s m args below meth c H locs cells slots Q (F0 m pc ls (.int x :: .int i :: .ref a :: rest)) := by
  subst hj; subst hW'
  exact va_bast hf.1 hf.2.1 hk.1 hw.1 hw.2.1 hw.2.2 q0 1 ha rfl hin hdg (fun H1 locs1 h1 h2 h3 => kk H1 locs1 ⟨h1, h2, h3⟩)
end CORE5
/-- Euclid's steps, m at most -/
def cdR : Nat → Int64 → Int64 → Int64
  | 0, a, _ => a
  | m + 1, a, b => if lg_cmp b 0 = 0 then a else cdR m b (a - a / b * b)
def wyR (n : Int32) : Nat → Int64
  | 0 => 1
  | i + 1 => wyR n i * (n - nI i).toInt64 / (nI i + 1).toInt64
theorem wy_ne {i : Nat} (h : i < 100) : ¬ (nI i + 1).toInt64 = 0 := by
  rw [nI_1, nI_l (by omega)]
  intro h2
  have := (lN_eq (a := i + 1) (b := 0) (by omega) (by omega)).mp h2
  omega
def odA (lamp : Int32) (k : Nat) : Nat → Int64
  | 0 => 1
  | i + 1 => odA lamp k i * (if nI k ≤ nI i then 100 - lamp else lamp).toInt64
def odB : Nat → Int64
  | 0 => 1
  | i + 1 => odB i * 100
def tkB (e8 : Int64) (k : Nat) : Int32 := vp_nar .byte ((e8.toUInt64 >>> ((8 * nI k).toInt64.toUInt64 &&& Int64.toUInt64 63)).toInt64.toInt32.toInt8.toInt32)
def tkT (byt : Nat → Int32) (tsz : Nat) (e8 : Int64) (k : Nat) : Nat → Int32 := fun j => if tsz ≤ j ∧ j < tsz + k then tkB e8 (j - tsz) else byt j
def tkR (tsz n : Nat) : Int32 := if nI (tsz + n) ≤ 200 then 1 else 0
def tkN (tsz n : Nat) : Nat := if nI (tsz + n) ≤ 200 then tsz + n else tsz
theorem tkT_0 (byt : Nat → Int32) (tsz : Nat) (e8 : Int64) : byt = tkT byt tsz e8 0 := by
  funext j
  unfold tkT
  rw [if_neg (by omega)]
theorem tkT_s {byt f : Nat → Int32} {tsz : Nat} {e8 : Int64} {k : Nat} (h : f = tkT byt tsz e8 k) : upd f (tsz + k) (tkB e8 k) = tkT byt tsz e8 (k + 1) := by
  subst h
  funext j
  by_cases hj : j = tsz + k
  · subst hj; rw [pk_us]; unfold tkT; rw [if_pos (by omega), show tsz + k - tsz = k by omega]
  · rw [pk_un hj]
    unfold tkT
    by_cases h1 : tsz ≤ j ∧ j < tsz + k
    · rw [if_pos h1, if_pos (by omega)]
    · rw [if_neg h1, if_neg (by omega)]

abbrev rmX10_commonDivisor : Room := { frames := 0, cells := 0, slots := 0, locals := 0 }
set_option maxHeartbeats 4000000 in
set_option maxRecDepth 100000 in
theorem c_X10_commonDivisor (l : Launch) (g : GG) (xa : Int64) (xb : Int64) : mt l g yX10_commonDivisor wsX10_commonDivisor rmX10_commonDivisor [.long xa, .long xb] [] (some (.long (cdR 100 xa xb))) [] := by
  refine mt.of (cc := cX10_commonDivisor) (nL := 11) (ret := (some .long)) (own := RX10) (by decide +kernel) rfl rfl (show ([] : List Nat) = [] from rfl) (Nat.le_of_ble_eq_true rfl) (fun p e s m below meth c hf hr hlk _ hk hst hw ls hl => ?_)
  have hx := hf.1
  have hb := hf.2.1
  have hts := hf.2.2.2.2
  have hl : lv_has ls 11 [(0, .long xa), (2, .long xb)] := hl
  refine lv_lload_n hx hb dX10_commonDivisor_0 rfl (lv_at hl 0 rfl) ?_
  refine lv_lstore (lv' := [(4, .long xa), (0, .long xa), (2, .long xb)]) hx hb dX10_commonDivisor_1 hl (by decide) rfl (fun ls hl => ?_)
  refine lv_lload_n hx hb dX10_commonDivisor_3 rfl (lv_at hl 2 rfl) ?_
  refine lv_lstore (lv' := [(6, .long xb), (4, .long xa), (0, .long xa), (2, .long xb)]) hx hb dX10_commonDivisor_4 hl (by decide) rfl (fun ls hl => ?_)
  refine lv_iconst (v := 0) hx hb dX10_commonDivisor_6 (by decide) ?_
  refine lv_istore (lv' := [(8, .int 0), (6, .long xb), (4, .long xa), (0, .long xa), (2, .long xb)]) hx hb dX10_commonDivisor_7 hl (by decide) rfl (fun ls hl => ?_)
  have lp_9_0 : ∀ (fu k : Nat) (ga : Int64) (gb : Int64), k ≤ 100 → 100 + 1 ≤ k + fu → (cdR 100 xa xb = cdR (100 - k) ga gb) → ∀ (H : Heap) (locs : List Loc), hv g (va_I []) s H locs [] → ∀ ls : Array Slot, lv_has ls 11 [(8, .int (nI k)), (6, .long gb), (4, .long ga), (0, .long xa), (2, .long xb)] → W p l e rmX10_commonDivisor s m ([.long xa, .long xb] : List Value).toArray below meth c H locs 0 0 (MQ below (mtQ g [] (some (.long (cdR 100 xa xb))) []) ([.long xa, .long xb] : List Value).toArray s 0 0 (va_I [])) (F0 m 9 ls []) := by
    intro fu
    induction fu with
    | zero =>
      intro k ga gb h1 h2
      exact absurd h2 (by omega)
    | succ fu ih_9 =>
      intro k ga gb hk1_9 hk2_9 eR H locs hw ls hl
      refine lv_iload hx hb dX10_commonDivisor_9 (lv_at hl 0 rfl) ?_
      refine lv_bipush (v := 100) hx hb dX10_commonDivisor_11 (by decide) ?_
      refine lv_icmp_ge (tgt := 44) hx hb dX10_commonDivisor_13 (by decide) (fun c_2 => ?_) (fun c_2 => ?_)
      · have hkE : k = 100 := Nat.le_antisymm hk1_9 ((nI_leI (a := 100) (by omega) (by omega)).mp c_2)
        have hm : 100 - k = 0 := by omega
        refine lv_lload hx hb dX10_commonDivisor_44 (lv_at hl 2 rfl) ?_
        exact re_l hf hr hlk hw (by rw [eR, hm]; rfl) (rfl) dX10_commonDivisor_46
      · have hkE : k < 100 := Nat.not_le.mp (fun h => c_2 ((nI_leI (a := 100) (by omega) (by omega)).mpr h))
        have hm : 100 - k = (99 - k) + 1 := by omega
        refine lv_lload hx hb dX10_commonDivisor_16 (lv_at hl 1 rfl) ?_
        refine lv_lconst (v := 0) hx hb dX10_commonDivisor_18 (by decide) ?_
        refine W.lcmp hx hb dX10_commonDivisor_19 ?_
        refine lv_if_eq (tgt := 44) hx hb dX10_commonDivisor_20 (by decide) (fun c_3 => ?_) (fun c_3 => ?_)
        · refine lv_lload hx hb dX10_commonDivisor_44 (lv_at hl 2 rfl) ?_
          exact re_l hf hr hlk hw (by rw [eR, hm]; exact congrArg Value.long (if_pos c_3).symm) (rfl) dX10_commonDivisor_46
        · have hb0 := c_3
          refine lv_lload hx hb dX10_commonDivisor_23 (lv_at hl 2 rfl) ?_
          refine lv_lload hx hb dX10_commonDivisor_25 (lv_at hl 1 rfl) ?_
          refine lv_lrem hx hb dX10_commonDivisor_27 (fun h => hb0 (by rw [h]; rfl)) ?_
          refine lv_lstore (lv' := [(9, .long (ga - ga / gb * gb)), (8, .int (nI k)), (6, .long gb), (4, .long ga), (0, .long xa), (2, .long xb)]) hx hb dX10_commonDivisor_28 hl (by decide) rfl (fun ls hl => ?_)
          refine lv_lload hx hb dX10_commonDivisor_30 (lv_at hl 2 rfl) ?_
          refine lv_lstore (lv' := [(4, .long gb), (9, .long (ga - ga / gb * gb)), (8, .int (nI k)), (6, .long gb), (0, .long xa), (2, .long xb)]) hx hb dX10_commonDivisor_32 hl (by decide) rfl (fun ls hl => ?_)
          refine lv_lload hx hb dX10_commonDivisor_34 (lv_at hl 1 rfl) ?_
          refine lv_lstore (lv' := [(6, .long (ga - ga / gb * gb)), (4, .long gb), (9, .long (ga - ga / gb * gb)), (8, .int (nI k)), (0, .long xa), (2, .long xb)]) hx hb dX10_commonDivisor_36 hl (by decide) rfl (fun ls hl => ?_)
          refine lv_iinc (v := nI (k + 1)) (lv' := [(8, .int (nI (k + 1))), (6, .long (ga - ga / gb * gb)), (4, .long gb), (9, .long (ga - ga / gb * gb)), (0, .long xa), (2, .long xb)]) hx hb dX10_commonDivisor_38 hl (k := 3) rfl (nI_1 _) (by decide) rfl (fun ls hl => ?_)
          refine lv_goto (tgt := 9) hx hb dX10_commonDivisor_41 (by decide) ?_
          exact ih_9 (k + 1) gb (ga - ga / gb * gb) (by omega) (by omega) (by rw [eR, hm, show 100 - (k + 1) = 99 - k by omega]; exact if_neg hb0) _ _ hw _ (lv_sub hl [0, 1, 2, 4, 5] rfl)
  exact lp_9_0 (100 + 1) 0 xa xb (by omega) (by omega) (rfl) _ _ hw _ (lv_sub hl [0, 1, 2, 3, 4] rfl)
theorem hdS_X10_commonDivisor : yX10_commonDivisor.cls ≠ "java/lang/invoke/MethodHandle" ∧ yX10_commonDivisor.cls ≠ "java/lang/invoke/VarHandle" ∧ (parseMethodDescriptor yX10_commonDivisor.desc).map (fun d => d.parameters.length) = some 2 := by decide +kernel
def f_X10_partOf (xa : Int64) (xb : Int64) (part : Int32) : Int64 := if (lg_cmp (cdR 100 xa xb) 0) = 0 then 0 else (if part = 0 then (xa / (cdR 100 xa xb)) else (xb / (cdR 100 xa xb)))
abbrev rmX10_partOf : Room := { frames := 1, cells := 0, slots := 0, locals := 30 }
set_option maxHeartbeats 4000000 in
set_option maxRecDepth 100000 in
theorem c_X10_partOf (l : Launch) (g : GG) (xa : Int64) (xb : Int64) (part : Int32) : mt l g yX10_partOf wsX10_partOf rmX10_partOf [.long xa, .long xb, .int part] [] (some (.long (f_X10_partOf xa xb part))) [] := by
  refine mt.of (cc := cX10_partOf) (nL := 7) (ret := (some .long)) (own := RX10) (by decide +kernel) rfl rfl (show ([] : List Nat) = [] from rfl) (Nat.le_of_ble_eq_true rfl) (fun p e s m below meth c hf hr hlk _ hk hst hw ls hl => ?_)
  have hx := hf.1
  have hb := hf.2.1
  have hts := hf.2.2.2.2
  have hl : lv_has ls 7 [(0, .long xa), (2, .long xb), (4, .int part)] := hl
  refine lv_lload_n hx hb dX10_partOf_0 rfl (lv_at hl 0 rfl) ?_
  refine lv_lload_n hx hb dX10_partOf_1 rfl (lv_at hl 1 rfl) ?_
  refine mcS hf hk hst hw (c_X10_commonDivisor l g xa xb) (va_cwS 2 hts gX10_partOf_X10_commonDivisor rfl rfl rfl hdS_X10_commonDivisor ⟨Nat.le_of_ble_eq_true rfl, Nat.le_of_ble_eq_true rfl⟩) [] rfl rfl rfl hl.1 rfl (Nat.le_of_ble_eq_true rfl) dX10_partOf_2 ⟨Nat.zero_le _, Nat.zero_le _⟩ (W' := []) rfl (fun H locs hw => ?_)
  refine lv_lstore (lv' := [(5, .long (cdR 100 xa xb)), (0, .long xa), (2, .long xb), (4, .int part)]) hx hb dX10_partOf_5 hl (by decide) rfl (fun ls hl => ?_)
  refine lv_lload hx hb dX10_partOf_7 (lv_at hl 0 rfl) ?_
  refine lv_lconst (v := 0) hx hb dX10_partOf_9 (by decide) ?_
  refine W.lcmp hx hb dX10_partOf_10 ?_
  refine lv_if_ne (tgt := 16) hx hb dX10_partOf_11 (by decide) (fun c_1 => ?_) (fun c_1 => ?_)
  · have hz := c_1
    refine lv_iload hx hb dX10_partOf_16 (lv_at hl 3 rfl) ?_
    refine lv_if_ne (tgt := 25) hx hb dX10_partOf_18 (by decide) (fun c_2 => ?_) (fun c_2 => ?_)
    · refine lv_lload_n hx hb dX10_partOf_25 rfl (lv_at hl 2 rfl) ?_
      refine lv_lload hx hb dX10_partOf_26 (lv_at hl 0 rfl) ?_
      refine lv_ldiv hx hb dX10_partOf_28 (fun h => hz (by rw [h]; rfl)) ?_
      exact re_l hf hr hlk hw (by simp only [f_X10_partOf, if_neg c_1, if_neg c_2]) (rfl) dX10_partOf_29
    · refine lv_lload_n hx hb dX10_partOf_21 rfl (lv_at hl 1 rfl) ?_
      refine lv_goto (tgt := 26) hx hb dX10_partOf_22 (by decide) ?_
      refine lv_lload hx hb dX10_partOf_26 (lv_at hl 0 rfl) ?_
      refine lv_ldiv hx hb dX10_partOf_28 (fun h => hz (by rw [h]; rfl)) ?_
      exact re_l hf hr hlk hw (by simp only [f_X10_partOf, if_neg c_1, if_pos c_2]) (rfl) dX10_partOf_29
  · refine lv_lconst (v := 0) hx hb dX10_partOf_14 (by decide) ?_
    exact re_l hf hr hlk hw (by simp only [f_X10_partOf, if_pos c_1]) (rfl) dX10_partOf_15
abbrev rmX10_waysToTake : Room := { frames := 0, cells := 0, slots := 0, locals := 0 }
set_option maxHeartbeats 4000000 in
set_option maxRecDepth 100000 in
theorem c_X10_waysToTake (l : Launch) (g : GG) (n : Int32) (kq : Nat) (hk9 : kq < 100) : mt l g yX10_waysToTake wsX10_waysToTake rmX10_waysToTake [.int n, .int (nI kq)] [] (some (.long (wyR n kq))) [] := by
  refine mt.of (cc := cX10_waysToTake) (nL := 5) (ret := (some .long)) (own := RX10) (by decide +kernel) rfl rfl (show ([] : List Nat) = [] from rfl) (Nat.le_of_ble_eq_true rfl) (fun p e s m below meth c hf hr hlk _ hk hst hw ls hl => ?_)
  have hx := hf.1
  have hb := hf.2.1
  have hts := hf.2.2.2.2
  have hl : lv_has ls 5 [(0, .int n), (1, .int (nI kq))] := hl
  refine lv_lconst (v := 1) hx hb dX10_waysToTake_0 (by decide) ?_
  refine lv_lstore_n (lv' := [(2, .long 1), (0, .int n), (1, .int (nI kq))]) hx hb dX10_waysToTake_1 rfl hl (by decide) rfl (fun ls hl => ?_)
  refine lv_iconst (v := 0) hx hb dX10_waysToTake_2 (by decide) ?_
  refine lv_istore (lv' := [(4, .int 0), (2, .long 1), (0, .int n), (1, .int (nI kq))]) hx hb dX10_waysToTake_3 hl (by decide) rfl (fun ls hl => ?_)
  have lp_5_0 : ∀ (fu k : Nat), k ≤ kq → kq + 1 ≤ k + fu → ∀ (H : Heap) (locs : List Loc), hv g (va_I []) s H locs [] → ∀ ls : Array Slot, lv_has ls 5 [(4, .int (nI k)), (2, .long (wyR n k)), (0, .int n), (1, .int (nI kq))] → W p l e rmX10_waysToTake s m ([.int n, .int (nI kq)] : List Value).toArray below meth c H locs 0 0 (MQ below (mtQ g [] (some (.long (wyR n kq))) []) ([.int n, .int (nI kq)] : List Value).toArray s 0 0 (va_I [])) (F0 m 5 ls []) := by
    intro fu
    induction fu with
    | zero =>
      intro k h1 h2
      exact absurd h2 (by omega)
    | succ fu ih_5 =>
      intro k hk1_5 hk2_5 H locs hw ls hl
      refine lv_iload hx hb dX10_waysToTake_5 (lv_at hl 0 rfl) ?_
      refine lv_iload_n hx hb dX10_waysToTake_7 rfl (lv_at hl 3 rfl) ?_
      refine lv_icmp_ge (tgt := 31) hx hb dX10_waysToTake_8 (by decide) (fun c_2 => ?_) (fun c_2 => ?_)
      · have hkE : k = kq := Nat.le_antisymm hk1_5 ((nI_leI (by omega) (by omega)).mp c_2)
        refine lv_lload_n hx hb dX10_waysToTake_31 rfl (lv_at hl 1 rfl) ?_
        exact re_l hf hr hlk hw (by rw [hkE]) (rfl) dX10_waysToTake_32
      · have hkE : k < kq := Nat.not_le.mp (fun h => c_2 ((nI_leI (by omega) (by omega)).mpr h))
        refine lv_lload_n hx hb dX10_waysToTake_11 rfl (lv_at hl 1 rfl) ?_
        refine lv_iload_n hx hb dX10_waysToTake_12 rfl (lv_at hl 2 rfl) ?_
        refine lv_iload hx hb dX10_waysToTake_13 (lv_at hl 0 rfl) ?_
        refine lv_isub hx hb dX10_waysToTake_15 ?_
        refine lv_i2l hx hb dX10_waysToTake_16 rfl ?_
        refine lv_lmul hx hb dX10_waysToTake_17 ?_
        refine lv_iload hx hb dX10_waysToTake_18 (lv_at hl 0 rfl) ?_
        refine lv_iconst (v := 1) hx hb dX10_waysToTake_20 (by decide) ?_
        refine lv_iadd hx hb dX10_waysToTake_21 ?_
        refine lv_i2l hx hb dX10_waysToTake_22 rfl ?_
        refine lv_ldiv hx hb dX10_waysToTake_23 (wy_ne (by omega)) ?_
        refine lv_lstore_n (lv' := [(2, .long (((wyR n k) * ((n - (nI k)).toInt64)) / (((nI k) + 1).toInt64))), (4, .int (nI k)), (0, .int n), (1, .int (nI kq))]) hx hb dX10_waysToTake_24 rfl hl (by decide) rfl (fun ls hl => ?_)
        refine lv_iinc (v := nI (k + 1)) (lv' := [(4, .int (nI (k + 1))), (2, .long (((wyR n k) * ((n - (nI k)).toInt64)) / (((nI k) + 1).toInt64))), (0, .int n), (1, .int (nI kq))]) hx hb dX10_waysToTake_25 hl (k := 1) rfl (nI_1 _) (by decide) rfl (fun ls hl => ?_)
        refine lv_goto (tgt := 5) hx hb dX10_waysToTake_28 (by decide) ?_
        have e_1 : ((wyR n k) * ((n - (nI k)).toInt64)) / (((nI k) + 1).toInt64) = wyR n (k + 1) := rfl
        rw [e_1] at hl
        exact ih_5 (k + 1) (by omega) (by omega) _ _ hw _ (lv_sub hl [0, 1, 2, 3] rfl)
  exact lp_5_0 (kq + 1) 0 (by omega) (by omega) _ _ hw _ (lv_sub hl [0, 1, 2, 3] rfl)
theorem hdS_X10_waysToTake : yX10_waysToTake.cls ≠ "java/lang/invoke/MethodHandle" ∧ yX10_waysToTake.cls ≠ "java/lang/invoke/VarHandle" ∧ (parseMethodDescriptor yX10_waysToTake.desc).map (fun d => d.parameters.length) = some 2 := by decide +kernel
theorem hdS_X10_partOf : yX10_partOf.cls ≠ "java/lang/invoke/MethodHandle" ∧ yX10_partOf.cls ≠ "java/lang/invoke/VarHandle" ∧ (parseMethodDescriptor yX10_partOf.desc).map (fun d => d.parameters.length) = some 3 := by decide +kernel
abbrev rmX10_odds : Room := { frames := 2, cells := 0, slots := 0, locals := 56 }
set_option maxHeartbeats 4000000 in
set_option maxRecDepth 100000 in
theorem c_X10_odds (l : Launch) (g : GG) (lh : Nat) (t : Nat) (tl : Nat) (tf : Nat) (ta : Nat) (tk : Nat) (tg : Nat) (tp : Nat) (tm : Nat) (laws : Nat → Int32) (cnt : Nat) (stp : Nat) (z : Int32) (xt : Nat) (yt : Nat) (ak : Nat) (isk : Int32) (ltp : Nat) (lrw : Nat) (rc : Nat) (lac : Nat) (lsh : Nat) (lhh : Nat) (lhg : Nat) (lhr : Nat) (n : Int32) (k : Int32) (part : Int32) : mtR l g yX10_odds wsX10_odds rmX10_odds [.ref lh, .int n, .int k, .int part] [cob lh 10 [.ref ak, .ref t, .ref yt, .ref xt, .int isk, .ref ltp, .ref lrw, .int (nI rc), .ref lac, .ref lsh, .ref lhh, .ref lhg, .ref lhr], cob t 8 [.ref ak, .ref tl, .ref tf, .ref ta, .ref tk, .ref tg, .ref tp, .ref tm, .int (nI cnt), .int (nI stp), .int z], cin g tl 4 laws] (fun rv W => rv = (some (.long (if f_X10_isOutside n 0 8 = 0 then (if f_X10_isOutside k 0 (nI (ix n)) = 0 then (if f_X10_isOutside part 0 1 = 0 then f_X10_partOf (odA (laws 3) (ix k) (ix n) * wyR (nI (ix n)) (ix k)) (odB (ix n)) part else -1) else -1) else -1))) ∧ W = [cob lh 10 [.ref ak, .ref t, .ref yt, .ref xt, .int isk, .ref ltp, .ref lrw, .int (nI rc), .ref lac, .ref lsh, .ref lhh, .ref lhg, .ref lhr], cob t 8 [.ref ak, .ref tl, .ref tf, .ref ta, .ref tk, .ref tg, .ref tp, .ref tm, .int (nI cnt), .int (nI stp), .int z], cin g tl 4 laws]) := by
  refine mtR.of (cc := cX10_odds) (nL := 10) (ret := (some .long)) (own := RX10) (by decide +kernel) rfl rfl (Nat.le_of_ble_eq_true rfl) (fun p e s m below meth c hf hr hlk _ hk hst hw ls hl => ?_)
  have hx := hf.1
  have hb := hf.2.1
  have hts := hf.2.2.2.2
  have hl : lv_has ls 10 [(0, .ref lh), (1, .int n), (2, .int k), (3, .int part)] := hl
  have w_0 : Cond.constantLong RX10 238 (-1) ∈ wsX10_odds := List.mem_of_getElem? (i := 1) rfl
  have hinX10 : ∀ w ∈ u_ws RX10 TX10 13, w ∈ wsX10_odds := fun w h => List.mem_cons_of_mem _ (List.mem_append_left _ (List.mem_append_right _ h))
  have w_1 : Cond.fieldLink RX10 36 "LightMan" "now" "LLightMan$Tunnel;" ∈ wsX10_odds := List.mem_of_getElem? (i := 2) rfl
  have hinX8 : ∀ w ∈ u_ws RX8 TX8 11, w ∈ wsX10_odds := fun w h => List.mem_cons_of_mem _ (List.mem_append_right _ h)
  have w_2 : Cond.fieldLink RX10 115 "LightMan$Tunnel" "laws" "[I" ∈ wsX10_odds := List.mem_of_getElem? (i := 3) rfl
  have w_3 : Cond.constantLong RX10 240 (100) ∈ wsX10_odds := List.mem_of_getElem? (i := 4) rfl
  refine lv_iload_n hx hb dX10_odds_0 rfl (lv_at hl 1 rfl) ?_
  refine lv_iconst (v := 0) hx hb dX10_odds_1 (by decide) ?_
  refine lv_bipush (v := 8) hx hb dX10_odds_2 (by decide) ?_
  refine mcS hf hk hst hw (c_X10_isOutside l g n 0 8) (va_cwS 3 hts gX10_odds_X10_isOutside rfl rfl rfl hdS_X10_isOutside ⟨Nat.le_of_ble_eq_true rfl, Nat.le_of_ble_eq_true rfl⟩) [] rfl rfl rfl hl.1 rfl (Nat.le_of_ble_eq_true rfl) dX10_odds_4 ⟨Nat.zero_le _, Nat.zero_le _⟩ (W' := [cob lh 10 [.ref ak, .ref t, .ref yt, .ref xt, .int isk, .ref ltp, .ref lrw, .int (nI rc), .ref lac, .ref lsh, .ref lhh, .ref lhg, .ref lhr], cob t 8 [.ref ak, .ref tl, .ref tf, .ref ta, .ref tk, .ref tg, .ref tp, .ref tm, .int (nI cnt), .int (nI stp), .int z], cin g tl 4 laws]) rfl (fun H locs hw => ?_)
  refine lv_if_ne (tgt := 28) hx hb dX10_odds_7 (by decide) (fun c_1 => ?_) (fun c_1 => ?_)
  · refine lv_ldc2 hx hb hf.2.2.2.1 (hts _ w_0) dX10_odds_28 ?_
    exact rE_l hf hr hlk hw ⟨congrArg some (by simp only [if_neg c_1]), rfl⟩ (show ([lh, t, tl] : List Nat) = [lh, t, tl] from rfl) dX10_odds_31
  · have hn := out_n (N := 8) (by decide) c_1
    have hn2 := hn.2
    refine lv_iload_n hx hb dX10_odds_10 rfl (lv_at hl 2 rfl) ?_
    refine lv_iconst (v := 0) hx hb dX10_odds_11 (by decide) ?_
    refine lv_iload_n hx hb dX10_odds_12 rfl (lv_at hl 1 rfl) ?_
    refine lv_tope (y := nI (ix n)) hn.1 ?_
    refine mcS hf hk hst hw (c_X10_isOutside l g k 0 (nI (ix n))) (va_cwS 3 hts gX10_odds_X10_isOutside rfl rfl rfl hdS_X10_isOutside ⟨Nat.le_of_ble_eq_true rfl, Nat.le_of_ble_eq_true rfl⟩) [] rfl rfl rfl hl.1 rfl (Nat.le_of_ble_eq_true rfl) dX10_odds_13 ⟨Nat.zero_le _, Nat.zero_le _⟩ (W' := [cob lh 10 [.ref ak, .ref t, .ref yt, .ref xt, .int isk, .ref ltp, .ref lrw, .int (nI rc), .ref lac, .ref lsh, .ref lhh, .ref lhg, .ref lhr], cob t 8 [.ref ak, .ref tl, .ref tf, .ref ta, .ref tk, .ref tg, .ref tp, .ref tm, .int (nI cnt), .int (nI stp), .int z], cin g tl 4 laws]) rfl (fun H locs hw => ?_)
    refine lv_if_ne (tgt := 28) hx hb dX10_odds_16 (by decide) (fun c_2 => ?_) (fun c_2 => ?_)
    · refine lv_ldc2 hx hb hf.2.2.2.1 (hts _ w_0) dX10_odds_28 ?_
      exact rE_l hf hr hlk hw ⟨congrArg some (by simp only [if_pos c_1, if_neg c_2]), rfl⟩ (show ([lh, t, tl] : List Nat) = [lh, t, tl] from rfl) dX10_odds_31
    · have hk_ := out_n (N := ix n) (nI_toInt (by omega)) c_2
      have hk_2 := hk_.2
      refine lv_iload_n hx hb dX10_odds_19 rfl (lv_at hl 3 rfl) ?_
      refine lv_iconst (v := 0) hx hb dX10_odds_20 (by decide) ?_
      refine lv_iconst (v := 1) hx hb dX10_odds_21 (by decide) ?_
      refine mcS hf hk hst hw (c_X10_isOutside l g part 0 1) (va_cwS 3 hts gX10_odds_X10_isOutside rfl rfl rfl hdS_X10_isOutside ⟨Nat.le_of_ble_eq_true rfl, Nat.le_of_ble_eq_true rfl⟩) [] rfl rfl rfl hl.1 rfl (Nat.le_of_ble_eq_true rfl) dX10_odds_22 ⟨Nat.zero_le _, Nat.zero_le _⟩ (W' := [cob lh 10 [.ref ak, .ref t, .ref yt, .ref xt, .int isk, .ref ltp, .ref lrw, .int (nI rc), .ref lac, .ref lsh, .ref lhh, .ref lhg, .ref lhr], cob t 8 [.ref ak, .ref tl, .ref tf, .ref ta, .ref tk, .ref tg, .ref tp, .ref tm, .int (nI cnt), .int (nI stp), .int z], cin g tl 4 laws]) rfl (fun H locs hw => ?_)
      refine lv_if_eq (tgt := 32) hx hb dX10_odds_25 (by decide) (fun c_3 => ?_) (fun c_3 => ?_)
      · refine lv_aload_n hx hb dX10_odds_32 rfl (lv_at hl 0 rfl) ?_
        refine rg hf hk hw hinX10 0 rfl rfl 1 (by decide) w_1 rfl dX10_odds_33 ?_
        refine rg hf hk hw hinX8 1 rfl rfl 1 (by decide) w_2 rfl dX10_odds_36 ?_
        refine lv_iconst (v := 3) hx hb dX10_odds_39 (by decide) ?_
        refine rij hf hk hw 2 rfl (j := 3) (vp_in_nI (n := 3) (by omega) (by omega)) (rfl) dX10_odds_40 ?_
        refine lv_istore (lv' := [(4, .int (laws 3)), (0, .ref lh), (1, .int n), (2, .int k), (3, .int part)]) hx hb dX10_odds_41 hl (by decide) rfl (fun ls hl => ?_)
        refine lv_lconst (v := 1) hx hb dX10_odds_43 (by decide) ?_
        refine lv_lstore (lv' := [(5, .long 1), (4, .int (laws 3)), (0, .ref lh), (1, .int n), (2, .int k), (3, .int part)]) hx hb dX10_odds_44 hl (by decide) rfl (fun ls hl => ?_)
        refine lv_lconst (v := 1) hx hb dX10_odds_46 (by decide) ?_
        refine lv_lstore (lv' := [(7, .long 1), (5, .long 1), (4, .int (laws 3)), (0, .ref lh), (1, .int n), (2, .int k), (3, .int part)]) hx hb dX10_odds_47 hl (by decide) rfl (fun ls hl => ?_)
        refine lv_iconst (v := 0) hx hb dX10_odds_49 (by decide) ?_
        refine lv_istore (lv' := [(9, .int 0), (7, .long 1), (5, .long 1), (4, .int (laws 3)), (0, .ref lh), (1, .int n), (2, .int k), (3, .int part)]) hx hb dX10_odds_50 hl (by decide) rfl (fun ls hl => ?_)
        have lp_52_3 : ∀ (fu j : Nat), j ≤ (ix n) → (ix n) + 1 ≤ j + fu → ∀ (H : Heap) (locs : List Loc), hv g (va_I [cob lh 10 [.ref ak, .ref t, .ref yt, .ref xt, .int isk, .ref ltp, .ref lrw, .int (nI rc), .ref lac, .ref lsh, .ref lhh, .ref lhg, .ref lhr], cob t 8 [.ref ak, .ref tl, .ref tf, .ref ta, .ref tk, .ref tg, .ref tp, .ref tm, .int (nI cnt), .int (nI stp), .int z], cin g tl 4 laws]) s H locs [cob lh 10 [.ref ak, .ref t, .ref yt, .ref xt, .int isk, .ref ltp, .ref lrw, .int (nI rc), .ref lac, .ref lsh, .ref lhh, .ref lhg, .ref lhr], cob t 8 [.ref ak, .ref tl, .ref tf, .ref ta, .ref tk, .ref tg, .ref tp, .ref tm, .int (nI cnt), .int (nI stp), .int z], cin g tl 4 laws] → ∀ ls : Array Slot, lv_has ls 10 [(9, .int (nI j)), (7, .long (odB j)), (5, .long (odA (laws 3) (ix k) j)), (4, .int (laws 3)), (0, .ref lh), (1, .int n), (2, .int k), (3, .int part)] → W p l e rmX10_odds s m ([.ref lh, .int n, .int k, .int part] : List Value).toArray below meth c H locs 0 0 (MQ below (mtS g [cob lh 10 [.ref ak, .ref t, .ref yt, .ref xt, .int isk, .ref ltp, .ref lrw, .int (nI rc), .ref lac, .ref lsh, .ref lhh, .ref lhg, .ref lhr], cob t 8 [.ref ak, .ref tl, .ref tf, .ref ta, .ref tk, .ref tg, .ref tp, .ref tm, .int (nI cnt), .int (nI stp), .int z], cin g tl 4 laws] (fun rv W => rv = (some (.long (if f_X10_isOutside n 0 8 = 0 then (if f_X10_isOutside k 0 (nI (ix n)) = 0 then (if f_X10_isOutside part 0 1 = 0 then f_X10_partOf (odA (laws 3) (ix k) (ix n) * wyR (nI (ix n)) (ix k)) (odB (ix n)) part else -1) else -1) else -1))) ∧ W = [cob lh 10 [.ref ak, .ref t, .ref yt, .ref xt, .int isk, .ref ltp, .ref lrw, .int (nI rc), .ref lac, .ref lsh, .ref lhh, .ref lhg, .ref lhr], cob t 8 [.ref ak, .ref tl, .ref tf, .ref ta, .ref tk, .ref tg, .ref tp, .ref tm, .int (nI cnt), .int (nI stp), .int z], cin g tl 4 laws])) ([.ref lh, .int n, .int k, .int part] : List Value).toArray s 0 0 (va_I [cob lh 10 [.ref ak, .ref t, .ref yt, .ref xt, .int isk, .ref ltp, .ref lrw, .int (nI rc), .ref lac, .ref lsh, .ref lhh, .ref lhg, .ref lhr], cob t 8 [.ref ak, .ref tl, .ref tf, .ref ta, .ref tk, .ref tg, .ref tp, .ref tm, .int (nI cnt), .int (nI stp), .int z], cin g tl 4 laws])) (F0 m 52 ls []) := by
          intro fu
          induction fu with
          | zero =>
            intro j h1 h2
            exact absurd h2 (by omega)
          | succ fu ih_52 =>
            intro j hk1_52 hk2_52 H locs hw ls hl
            refine lv_iload hx hb dX10_odds_52 (lv_at hl 0 rfl) ?_
            refine lv_iload_n hx hb dX10_odds_54 rfl (lv_at hl 5 rfl) ?_
            refine lv_tope (y := nI (ix n)) hn.1 ?_
            refine lv_icmp_ge (tgt := 94) hx hb dX10_odds_55 (by decide) (fun c_5 => ?_) (fun c_5 => ?_)
            · have hjE : j = ix n := Nat.le_antisymm hk1_52 ((nI_leI (by omega) (by omega)).mp c_5)
              refine lv_lload hx hb dX10_odds_94 (lv_at hl 2 rfl) ?_
              refine lv_iload_n hx hb dX10_odds_96 rfl (lv_at hl 5 rfl) ?_
              refine lv_tope (y := nI (ix n)) hn.1 ?_
              refine lv_iload_n hx hb dX10_odds_97 rfl (lv_at hl 6 rfl) ?_
              refine lv_tope (y := nI (ix k)) hk_.1 ?_
              refine mcS hf hk hst hw (c_X10_waysToTake l g (nI (ix n)) (ix k) (by omega)) (va_cwS 2 hts gX10_odds_X10_waysToTake rfl rfl rfl hdS_X10_waysToTake ⟨Nat.le_of_ble_eq_true rfl, Nat.le_of_ble_eq_true rfl⟩) [] rfl rfl rfl hl.1 rfl (Nat.le_of_ble_eq_true rfl) dX10_odds_98 ⟨Nat.zero_le _, Nat.zero_le _⟩ (W' := [cob lh 10 [.ref ak, .ref t, .ref yt, .ref xt, .int isk, .ref ltp, .ref lrw, .int (nI rc), .ref lac, .ref lsh, .ref lhh, .ref lhg, .ref lhr], cob t 8 [.ref ak, .ref tl, .ref tf, .ref ta, .ref tk, .ref tg, .ref tp, .ref tm, .int (nI cnt), .int (nI stp), .int z], cin g tl 4 laws]) rfl (fun H locs hw => ?_)
              refine lv_lmul hx hb dX10_odds_101 ?_
              refine lv_lload hx hb dX10_odds_102 (lv_at hl 1 rfl) ?_
              refine lv_iload_n hx hb dX10_odds_104 rfl (lv_at hl 7 rfl) ?_
              refine mcS hf hk hst hw (c_X10_partOf l g ((odA (laws 3) (ix k) j) * (wyR (nI (ix n)) (ix k))) (odB j) part) (va_cwS 3 hts gX10_odds_X10_partOf rfl rfl rfl hdS_X10_partOf ⟨Nat.le_of_ble_eq_true rfl, Nat.le_of_ble_eq_true rfl⟩) [] rfl rfl rfl hl.1 rfl (Nat.le_of_ble_eq_true rfl) dX10_odds_105 ⟨Nat.zero_le _, Nat.zero_le _⟩ (W' := [cob lh 10 [.ref ak, .ref t, .ref yt, .ref xt, .int isk, .ref ltp, .ref lrw, .int (nI rc), .ref lac, .ref lsh, .ref lhh, .ref lhg, .ref lhr], cob t 8 [.ref ak, .ref tl, .ref tf, .ref ta, .ref tk, .ref tg, .ref tp, .ref tm, .int (nI cnt), .int (nI stp), .int z], cin g tl 4 laws]) rfl (fun H locs hw => ?_)
              exact rE_l hf hr hlk hw ⟨congrArg some (by simp only [if_pos c_1, if_pos c_2, if_pos c_3, hjE]), rfl⟩ (show ([lh, t, tl] : List Nat) = [lh, t, tl] from rfl) dX10_odds_108
            · have hjE : j < ix n := Nat.not_le.mp (fun h => c_5 ((nI_leI (by omega) (by omega)).mpr h))
              refine lv_lload hx hb dX10_odds_58 (lv_at hl 2 rfl) ?_
              refine lv_iload hx hb dX10_odds_60 (lv_at hl 0 rfl) ?_
              refine lv_iload_n hx hb dX10_odds_62 rfl (lv_at hl 6 rfl) ?_
              refine lv_tope (y := nI (ix k)) hk_.1 ?_
              refine lv_icmp_ge (tgt := 71) hx hb dX10_odds_63 (by decide) (fun c_6 => ?_) (fun c_6 => ?_)
              · refine lv_bipush (v := 100) hx hb dX10_odds_71 (by decide) ?_
                refine lv_iload hx hb dX10_odds_73 (lv_at hl 3 rfl) ?_
                refine lv_isub hx hb dX10_odds_75 ?_
                refine lv_i2l hx hb dX10_odds_76 rfl ?_
                refine lv_lmul hx hb dX10_odds_77 ?_
                refine lv_lstore (lv' := [(5, .long ((odA (laws 3) (ix k) j) * ((100 - (laws 3)).toInt64))), (9, .int (nI j)), (7, .long (odB j)), (4, .int (laws 3)), (0, .ref lh), (1, .int n), (2, .int k), (3, .int part)]) hx hb dX10_odds_78 hl (by decide) rfl (fun ls hl => ?_)
                refine lv_lload hx hb dX10_odds_80 (lv_at hl 2 rfl) ?_
                refine lv_ldc2 hx hb hf.2.2.2.1 (hts _ w_3) dX10_odds_82 ?_
                refine lv_lmul hx hb dX10_odds_85 ?_
                refine lv_lstore (lv' := [(7, .long ((odB j) * 100)), (5, .long ((odA (laws 3) (ix k) j) * ((100 - (laws 3)).toInt64))), (9, .int (nI j)), (4, .int (laws 3)), (0, .ref lh), (1, .int n), (2, .int k), (3, .int part)]) hx hb dX10_odds_86 hl (by decide) rfl (fun ls hl => ?_)
                refine lv_iinc (v := nI (j + 1)) (lv' := [(9, .int (nI (j + 1))), (7, .long ((odB j) * 100)), (5, .long ((odA (laws 3) (ix k) j) * ((100 - (laws 3)).toInt64))), (4, .int (laws 3)), (0, .ref lh), (1, .int n), (2, .int k), (3, .int part)]) hx hb dX10_odds_88 hl (k := 2) rfl (nI_1 _) (by decide) rfl (fun ls hl => ?_)
                refine lv_goto (tgt := 52) hx hb dX10_odds_91 (by decide) ?_
                have e_1 : (odB j) * 100 = odB (j + 1) := rfl
                rw [e_1] at hl
                have e_2 : (odA (laws 3) (ix k) j) * ((100 - (laws 3)).toInt64) = odA (laws 3) (ix k) (j + 1) := (congrArg (fun q => odA (laws 3) (ix k) j * Int32.toInt64 q) (if_pos c_6)).symm
                rw [e_2] at hl
                exact ih_52 (j + 1) (by omega) (by omega) _ _ hw _ (lv_sub hl [0, 1, 2, 3, 4, 5, 6, 7] rfl)
              · refine lv_iload hx hb dX10_odds_66 (lv_at hl 3 rfl) ?_
                refine lv_goto (tgt := 76) hx hb dX10_odds_68 (by decide) ?_
                refine lv_i2l hx hb dX10_odds_76 rfl ?_
                refine lv_lmul hx hb dX10_odds_77 ?_
                refine lv_lstore (lv' := [(5, .long ((odA (laws 3) (ix k) j) * ((laws 3).toInt64))), (9, .int (nI j)), (7, .long (odB j)), (4, .int (laws 3)), (0, .ref lh), (1, .int n), (2, .int k), (3, .int part)]) hx hb dX10_odds_78 hl (by decide) rfl (fun ls hl => ?_)
                refine lv_lload hx hb dX10_odds_80 (lv_at hl 2 rfl) ?_
                refine lv_ldc2 hx hb hf.2.2.2.1 (hts _ w_3) dX10_odds_82 ?_
                refine lv_lmul hx hb dX10_odds_85 ?_
                refine lv_lstore (lv' := [(7, .long ((odB j) * 100)), (5, .long ((odA (laws 3) (ix k) j) * ((laws 3).toInt64))), (9, .int (nI j)), (4, .int (laws 3)), (0, .ref lh), (1, .int n), (2, .int k), (3, .int part)]) hx hb dX10_odds_86 hl (by decide) rfl (fun ls hl => ?_)
                refine lv_iinc (v := nI (j + 1)) (lv' := [(9, .int (nI (j + 1))), (7, .long ((odB j) * 100)), (5, .long ((odA (laws 3) (ix k) j) * ((laws 3).toInt64))), (4, .int (laws 3)), (0, .ref lh), (1, .int n), (2, .int k), (3, .int part)]) hx hb dX10_odds_88 hl (k := 2) rfl (nI_1 _) (by decide) rfl (fun ls hl => ?_)
                refine lv_goto (tgt := 52) hx hb dX10_odds_91 (by decide) ?_
                have e_1 : (odB j) * 100 = odB (j + 1) := rfl
                rw [e_1] at hl
                have e_2 : (odA (laws 3) (ix k) j) * ((laws 3).toInt64) = odA (laws 3) (ix k) (j + 1) := (congrArg (fun q => odA (laws 3) (ix k) j * Int32.toInt64 q) (if_neg c_6)).symm
                rw [e_2] at hl
                exact ih_52 (j + 1) (by omega) (by omega) _ _ hw _ (lv_sub hl [0, 1, 2, 3, 4, 5, 6, 7] rfl)
        exact lp_52_3 ((ix n) + 1) 0 (by omega) (by omega) _ _ hw _ (lv_sub hl [0, 1, 2, 3, 4, 5, 6, 7] rfl)
      · refine lv_ldc2 hx hb hf.2.2.2.1 (hts _ w_0) dX10_odds_28 ?_
        exact rE_l hf hr hlk hw ⟨congrArg some (by simp only [if_pos c_1, if_pos c_2, if_neg c_3]), rfl⟩ (show ([lh, t, tl] : List Nat) = [lh, t, tl] from rfl) dX10_odds_31
def f_X10_hope (laws : Nat → Int32) (n : Int32) (part : Int32) : Int64 := if (f_X10_isOutside n 0 99) = 0 then (if (f_X10_isOutside part 0 1) = 0 then (f_X10_partOf (n.toInt64 * ((laws 3).toInt64)) 100 part) else (-1)) else (-1)
abbrev rmX10_hope : Room := { frames := 2, cells := 0, slots := 0, locals := 56 }
set_option maxHeartbeats 4000000 in
set_option maxRecDepth 100000 in
theorem c_X10_hope (l : Launch) (g : GG) (lh : Nat) (t : Nat) (tl : Nat) (tf : Nat) (ta : Nat) (tk : Nat) (tg : Nat) (tp : Nat) (tm : Nat) (laws : Nat → Int32) (cnt : Nat) (stp : Nat) (z : Int32) (xt : Nat) (yt : Nat) (ak : Nat) (isk : Int32) (ltp : Nat) (lrw : Nat) (rc : Nat) (lac : Nat) (lsh : Nat) (lhh : Nat) (lhg : Nat) (lhr : Nat) (n : Int32) (part : Int32) : mtR l g yX10_hope wsX10_hope rmX10_hope [.ref lh, .int n, .int part] [cob lh 10 [.ref ak, .ref t, .ref yt, .ref xt, .int isk, .ref ltp, .ref lrw, .int (nI rc), .ref lac, .ref lsh, .ref lhh, .ref lhg, .ref lhr], cob t 8 [.ref ak, .ref tl, .ref tf, .ref ta, .ref tk, .ref tg, .ref tp, .ref tm, .int (nI cnt), .int (nI stp), .int z], cin g tl 4 laws] (fun rv W => rv = (some (.long (f_X10_hope laws n part))) ∧ W = [cob lh 10 [.ref ak, .ref t, .ref yt, .ref xt, .int isk, .ref ltp, .ref lrw, .int (nI rc), .ref lac, .ref lsh, .ref lhh, .ref lhg, .ref lhr], cob t 8 [.ref ak, .ref tl, .ref tf, .ref ta, .ref tk, .ref tg, .ref tp, .ref tm, .int (nI cnt), .int (nI stp), .int z], cin g tl 4 laws]) := by
  refine mtR.of (cc := cX10_hope) (nL := 3) (ret := (some .long)) (own := RX10) (by decide +kernel) rfl rfl (Nat.le_of_ble_eq_true rfl) (fun p e s m below meth c hf hr hlk _ hk hst hw ls hl => ?_)
  have hx := hf.1
  have hb := hf.2.1
  have hts := hf.2.2.2.2
  have hl : lv_has ls 3 [(0, .ref lh), (1, .int n), (2, .int part)] := hl
  have w_0 : Cond.constantLong RX10 238 (-1) ∈ wsX10_hope := List.mem_of_getElem? (i := 1) rfl
  have hinX10 : ∀ w ∈ u_ws RX10 TX10 13, w ∈ wsX10_hope := fun w h => List.mem_cons_of_mem _ (List.mem_append_left _ (List.mem_append_right _ h))
  have w_1 : Cond.fieldLink RX10 36 "LightMan" "now" "LLightMan$Tunnel;" ∈ wsX10_hope := List.mem_of_getElem? (i := 2) rfl
  have hinX8 : ∀ w ∈ u_ws RX8 TX8 11, w ∈ wsX10_hope := fun w h => List.mem_cons_of_mem _ (List.mem_append_right _ h)
  have w_2 : Cond.fieldLink RX10 115 "LightMan$Tunnel" "laws" "[I" ∈ wsX10_hope := List.mem_of_getElem? (i := 3) rfl
  have w_3 : Cond.constantLong RX10 240 (100) ∈ wsX10_hope := List.mem_of_getElem? (i := 4) rfl
  refine lv_iload_n hx hb dX10_hope_0 rfl (lv_at hl 1 rfl) ?_
  refine lv_iconst (v := 0) hx hb dX10_hope_1 (by decide) ?_
  refine lv_bipush (v := 99) hx hb dX10_hope_2 (by decide) ?_
  refine mcS hf hk hst hw (c_X10_isOutside l g n 0 99) (va_cwS 3 hts gX10_hope_X10_isOutside rfl rfl rfl hdS_X10_isOutside ⟨Nat.le_of_ble_eq_true rfl, Nat.le_of_ble_eq_true rfl⟩) [] rfl rfl rfl hl.1 rfl (Nat.le_of_ble_eq_true rfl) dX10_hope_4 ⟨Nat.zero_le _, Nat.zero_le _⟩ (W' := [cob lh 10 [.ref ak, .ref t, .ref yt, .ref xt, .int isk, .ref ltp, .ref lrw, .int (nI rc), .ref lac, .ref lsh, .ref lhh, .ref lhg, .ref lhr], cob t 8 [.ref ak, .ref tl, .ref tf, .ref ta, .ref tk, .ref tg, .ref tp, .ref tm, .int (nI cnt), .int (nI stp), .int z], cin g tl 4 laws]) rfl (fun H locs hw => ?_)
  refine lv_if_ne (tgt := 19) hx hb dX10_hope_7 (by decide) (fun c_1 => ?_) (fun c_1 => ?_)
  · refine lv_ldc2 hx hb hf.2.2.2.1 (hts _ w_0) dX10_hope_19 ?_
    exact rE_l hf hr hlk hw ⟨congrArg some (by simp only [f_X10_hope, if_neg c_1]), rfl⟩ (show ([lh, t, tl] : List Nat) = [lh, t, tl] from rfl) dX10_hope_22
  · refine lv_iload_n hx hb dX10_hope_10 rfl (lv_at hl 2 rfl) ?_
    refine lv_iconst (v := 0) hx hb dX10_hope_11 (by decide) ?_
    refine lv_iconst (v := 1) hx hb dX10_hope_12 (by decide) ?_
    refine mcS hf hk hst hw (c_X10_isOutside l g part 0 1) (va_cwS 3 hts gX10_hope_X10_isOutside rfl rfl rfl hdS_X10_isOutside ⟨Nat.le_of_ble_eq_true rfl, Nat.le_of_ble_eq_true rfl⟩) [] rfl rfl rfl hl.1 rfl (Nat.le_of_ble_eq_true rfl) dX10_hope_13 ⟨Nat.zero_le _, Nat.zero_le _⟩ (W' := [cob lh 10 [.ref ak, .ref t, .ref yt, .ref xt, .int isk, .ref ltp, .ref lrw, .int (nI rc), .ref lac, .ref lsh, .ref lhh, .ref lhg, .ref lhr], cob t 8 [.ref ak, .ref tl, .ref tf, .ref ta, .ref tk, .ref tg, .ref tp, .ref tm, .int (nI cnt), .int (nI stp), .int z], cin g tl 4 laws]) rfl (fun H locs hw => ?_)
    refine lv_if_eq (tgt := 23) hx hb dX10_hope_16 (by decide) (fun c_2 => ?_) (fun c_2 => ?_)
    · refine lv_iload_n hx hb dX10_hope_23 rfl (lv_at hl 1 rfl) ?_
      refine lv_i2l hx hb dX10_hope_24 rfl ?_
      refine lv_aload_n hx hb dX10_hope_25 rfl (lv_at hl 0 rfl) ?_
      refine rg hf hk hw hinX10 0 rfl rfl 1 (by decide) w_1 rfl dX10_hope_26 ?_
      refine rg hf hk hw hinX8 1 rfl rfl 1 (by decide) w_2 rfl dX10_hope_29 ?_
      refine lv_iconst (v := 3) hx hb dX10_hope_32 (by decide) ?_
      refine rij hf hk hw 2 rfl (j := 3) (vp_in_nI (n := 3) (by omega) (by omega)) (rfl) dX10_hope_33 ?_
      refine lv_i2l hx hb dX10_hope_34 rfl ?_
      refine lv_lmul hx hb dX10_hope_35 ?_
      refine lv_ldc2 hx hb hf.2.2.2.1 (hts _ w_3) dX10_hope_36 ?_
      refine lv_iload_n hx hb dX10_hope_39 rfl (lv_at hl 2 rfl) ?_
      refine mcS hf hk hst hw (c_X10_partOf l g (n.toInt64 * ((laws 3).toInt64)) 100 part) (va_cwS 3 hts gX10_hope_X10_partOf rfl rfl rfl hdS_X10_partOf ⟨Nat.le_of_ble_eq_true rfl, Nat.le_of_ble_eq_true rfl⟩) [] rfl rfl rfl hl.1 rfl (Nat.le_of_ble_eq_true rfl) dX10_hope_40 ⟨Nat.zero_le _, Nat.zero_le _⟩ (W' := [cob lh 10 [.ref ak, .ref t, .ref yt, .ref xt, .int isk, .ref ltp, .ref lrw, .int (nI rc), .ref lac, .ref lsh, .ref lhh, .ref lhg, .ref lhr], cob t 8 [.ref ak, .ref tl, .ref tf, .ref ta, .ref tk, .ref tg, .ref tp, .ref tm, .int (nI cnt), .int (nI stp), .int z], cin g tl 4 laws]) rfl (fun H locs hw => ?_)
      exact rE_l hf hr hlk hw ⟨congrArg some (by simp only [f_X10_hope, if_pos c_1, if_pos c_2]), rfl⟩ (show ([lh, t, tl] : List Nat) = [lh, t, tl] from rfl) dX10_hope_43
    · refine lv_ldc2 hx hb hf.2.2.2.1 (hts _ w_0) dX10_hope_19 ?_
      exact rE_l hf hr hlk hw ⟨congrArg some (by simp only [f_X10_hope, if_pos c_1, if_neg c_2]), rfl⟩ (show ([lh, t, tl] : List Nat) = [lh, t, tl] from rfl) dX10_hope_22
abbrev rmX7_take : Room := { frames := 0, cells := 0, slots := 0, locals := 0 }
set_option maxHeartbeats 4000000 in
set_option maxRecDepth 100000 in
theorem c_X7_take (l : Launch) (g : GG) (lby : Nat) (tsz : Nat) (tso : Int32) (tst : Int32) (ten : Int32) (ltp : Nat) (byt : Nat → Int32) (e8 : Int64) (n : Nat) (hn : n ≤ 8) (htz : tsz ≤ 200) : mt l g yX7_take wsX7_take rmX7_take [.ref ltp, .long e8, .int (nI n)] [cob ltp 7 [.ref lby, .int (nI tsz), .int tso, .int tst, .int ten], cby g lby 200 byt] (some (.int (tkR tsz n))) [cob ltp 7 [.ref lby, .int (nI (tkN tsz n)), .int tso, .int tst, .int ten], cby g lby 200 (if nI (tsz + n) ≤ 200 then tkT byt tsz e8 n else byt)] := by
  refine mt.of (cc := cX7_take) (nL := 5) (ret := (some .boolean)) (own := RX7) (by decide +kernel) rfl rfl (show ([ltp, lby] : List Nat) = [ltp, lby] from rfl) (Nat.le_of_ble_eq_true rfl) (fun p e s m below meth c hf hr hlk _ hk hst hw ls hl => ?_)
  have hx := hf.1
  have hb := hf.2.1
  have hts := hf.2.2.2.2
  have hl : lv_has ls 5 [(0, .ref ltp), (1, .long e8), (3, .int (nI n))] := hl
  have hinX7 : ∀ w ∈ u_ws RX7 TX7 5, w ∈ wsX7_take := fun w h => List.mem_cons_of_mem _ (List.mem_append_right _ h)
  have w_0 : Cond.fieldLink RX7 15 "LightMan$Tape" "size" "I" ∈ wsX7_take := List.mem_of_getElem? (i := 1) rfl
  have w_1 : Cond.fieldLink RX7 9 "LightMan$Tape" "bytes" "[B" ∈ wsX7_take := List.mem_of_getElem? (i := 2) rfl
  refine lv_aload_n hx hb dX7_take_0 rfl (lv_at hl 0 rfl) ?_
  refine rg hf hk hw hinX7 0 rfl rfl 1 (by decide) w_0 rfl dX7_take_1 ?_
  refine lv_iload_n hx hb dX7_take_4 rfl (lv_at hl 2 rfl) ?_
  refine lv_iadd hx hb dX7_take_5 ?_
  refine lv_tope (y := nI (tsz + n)) (nI_add _ _) ?_
  refine lv_sipush (v := 200) hx hb dX7_take_6 (by decide) ?_
  refine lv_icmp_le (tgt := 14) hx hb dX7_take_9 (by decide) (fun c_1 => ?_) (fun c_1 => ?_)
  · have h200 : tsz + n ≤ 200 := (nI_leI (b := 200) (by omega) (by omega)).mp c_1
    refine lv_iconst (v := 0) hx hb dX7_take_14 (by decide) ?_
    refine lv_istore (lv' := [(4, .int 0), (0, .ref ltp), (1, .long e8), (3, .int (nI n))]) hx hb dX7_take_15 hl (by decide) rfl (fun ls hl => ?_)
    have lp_17_1 : ∀ (fu k : Nat) (vb : Nat → Int32), k ≤ n → n + 1 ≤ k + fu → (vb = tkT byt tsz e8 k) → ∀ (H : Heap) (locs : List Loc), hv g (va_I [cob ltp 7 [.ref lby, .int (nI tsz), .int tso, .int tst, .int ten], cby g lby 200 byt]) s H locs [cob ltp 7 [.ref lby, .int (nI tsz), .int tso, .int tst, .int ten], cby g lby 200 vb] → ∀ ls : Array Slot, lv_has ls 5 [(4, .int (nI k)), (0, .ref ltp), (1, .long e8), (3, .int (nI n))] → W p l e rmX7_take s m ([.ref ltp, .long e8, .int (nI n)] : List Value).toArray below meth c H locs 0 0 (MQ below (mtQ g [cob ltp 7 [.ref lby, .int (nI tsz), .int tso, .int tst, .int ten], cby g lby 200 byt] (some (.int (tkR tsz n))) [cob ltp 7 [.ref lby, .int (nI (tkN tsz n)), .int tso, .int tst, .int ten], cby g lby 200 (if nI (tsz + n) ≤ 200 then tkT byt tsz e8 n else byt)]) ([.ref ltp, .long e8, .int (nI n)] : List Value).toArray s 0 0 (va_I [cob ltp 7 [.ref lby, .int (nI tsz), .int tso, .int tst, .int ten], cby g lby 200 byt])) (F0 m 17 ls []) := by
      intro fu
      induction fu with
      | zero =>
        intro k vb h1 h2
        exact absurd h2 (by omega)
      | succ fu ih_17 =>
        intro k vb hk1_17 hk2_17 evb H locs hw ls hl
        refine lv_iload hx hb dX7_take_17 (lv_at hl 0 rfl) ?_
        refine lv_iload_n hx hb dX7_take_19 rfl (lv_at hl 3 rfl) ?_
        refine lv_icmp_ge (tgt := 50) hx hb dX7_take_20 (by decide) (fun c_3 => ?_) (fun c_3 => ?_)
        · have hkE : k = n := Nat.le_antisymm hk1_17 ((nI_leI (by omega) (by omega)).mp c_3)
          refine lv_aload_n hx hb dX7_take_50 rfl (lv_at hl 1 rfl) ?_
          refine lv_dup hx hb dX7_take_51 rfl ?_
          refine rg hf hk hw hinX7 0 rfl rfl 1 (by decide) w_0 rfl dX7_take_52 ?_
          refine lv_iload_n hx hb dX7_take_55 rfl (lv_at hl 3 rfl) ?_
          refine lv_iadd hx hb dX7_take_56 ?_
          refine lv_tope (y := nI (tsz + n)) (nI_add _ _) ?_
          refine rp hf hk hw hinX7 tyX7 tyX7_ok nmX7 0 rfl rfl 1 (by decide) w_0 rfl (rfl) rfl (Nat.le_of_ble_eq_true rfl) dX7_take_57 (W' := [cob ltp 7 [.ref lby, .int (nI (tsz + n)), .int tso, .int tst, .int ten], cby g lby 200 vb]) rfl (fun H locs hw => ?_)
          refine lv_iconst (v := 1) hx hb dX7_take_60 (by decide) ?_
          exact re_z hf hr hlk hw (rfl) (by unfold tkR; rw [if_pos c_1]) (by simp only [tkN, if_pos c_1, evb, hkE]) dX7_take_61
        · have hkE : k < n := Nat.not_le.mp (fun h => c_3 ((nI_leI (by omega) (by omega)).mpr h))
          refine lv_aload_n hx hb dX7_take_23 rfl (lv_at hl 1 rfl) ?_
          refine rg hf hk hw hinX7 0 rfl rfl 0 (by decide) w_1 rfl dX7_take_24 ?_
          refine lv_aload_n hx hb dX7_take_27 rfl (lv_at hl 1 rfl) ?_
          refine rg hf hk hw hinX7 0 rfl rfl 1 (by decide) w_0 rfl dX7_take_28 ?_
          refine lv_iload hx hb dX7_take_31 (lv_at hl 0 rfl) ?_
          refine lv_iadd hx hb dX7_take_33 ?_
          refine lv_tope (y := nI (tsz + k)) (nI_add _ _) ?_
          refine lv_lload_n hx hb dX7_take_34 rfl (lv_at hl 2 rfl) ?_
          refine lv_bipush (v := 8) hx hb dX7_take_35 (by decide) ?_
          refine lv_iload hx hb dX7_take_37 (lv_at hl 0 rfl) ?_
          refine lv_imul hx hb dX7_take_39 ?_
          refine lv_lushr hx hb dX7_take_40 rfl ?_
          refine lv_l2i hx hb dX7_take_41 rfl ?_
          refine lv_i2b hx hb dX7_take_42 rfl ?_
          refine rtj hf hk hw 1 rfl (j := tsz + k) (vp_in_nI (by omega) (by omega)) (nI_clamp (by omega)) dX7_take_43 (W' := [cob ltp 7 [.ref lby, .int (nI tsz), .int tso, .int tst, .int ten], cby g lby 200 (upd vb (tsz + k) (vp_nar .byte ((((e8.toUInt64 >>> ((8 * (nI k)).toInt64.toUInt64 &&& Int64.toUInt64 63)).toInt64).toInt32).toInt8.toInt32)))]) rfl (fun H locs hw => ?_)
          refine lv_iinc (v := nI (k + 1)) (lv' := [(4, .int (nI (k + 1))), (0, .ref ltp), (1, .long e8), (3, .int (nI n))]) hx hb dX7_take_44 hl (k := 0) rfl (nI_1 _) (by decide) rfl (fun ls hl => ?_)
          refine lv_goto (tgt := 17) hx hb dX7_take_47 (by decide) ?_
          exact ih_17 (k + 1) (upd vb (tsz + k) (vp_nar .byte ((((e8.toUInt64 >>> ((8 * (nI k)).toInt64.toUInt64 &&& Int64.toUInt64 63)).toInt64).toInt32).toInt8.toInt32))) (by omega) (by omega) (tkT_s evb) _ _ hw _ (lv_sub hl [0, 1, 2, 3] rfl)
    exact lp_17_1 (n + 1) 0 byt (by omega) (by omega) (tkT_0 _ _ _) _ _ hw _ (lv_sub hl [0, 1, 2, 3] rfl)
  · refine lv_iconst (v := 0) hx hb dX7_take_12 (by decide) ?_
    exact re_z hf hr hlk hw (rfl) (by unfold tkR; rw [if_neg c_1]) (by simp only [tkN, if_neg c_1]) dX7_take_13
theorem hdV_X7_take : yX7_take.cls = RX7 ∧ yX7_take.cls ≠ "java/lang/invoke/MethodHandle" ∧ yX7_take.cls ≠ "java/lang/invoke/VarHandle" ∧ (parseMethodDescriptor yX7_take.desc).map (fun d => d.parameters.length) = some 2 := by decide +kernel
def f_X10_feed (tsz : Nat) (n : Int32) : Int32 := if (f_X10_isOutside n 1 8) = 0 then (if (tkR tsz (ix n)) = 0 then (-2) else (nI (tkN tsz (ix n)))) else (-1)
def f_X10_feed_w1 (tsz : Nat) (n : Int32) : Int32 := if (f_X10_isOutside n 1 8) = 0 then (nI (tkN tsz (ix n))) else (nI tsz)
def f_X10_feed_w2 (tsz : Nat) (byt : Nat → Int32) (e8 : Int64) (n : Int32) : Nat → Int32 := if (f_X10_isOutside n 1 8) = 0 then (if nI (tsz + (ix n)) ≤ 200 then tkT byt tsz e8 (ix n) else byt) else byt
abbrev rmX10_feed : Room := { frames := 1, cells := 0, slots := 0, locals := 24 }
set_option maxHeartbeats 4000000 in
set_option maxRecDepth 100000 in
theorem c_X10_feed (l : Launch) (g : GG) (lh : Nat) (t : Nat) (xt : Nat) (yt : Nat) (ak : Nat) (isk : Int32) (ltp : Nat) (lrw : Nat) (rc : Nat) (lac : Nat) (lsh : Nat) (lhh : Nat) (lhg : Nat) (lhr : Nat) (lby : Nat) (tsz : Nat) (tso : Int32) (tst : Int32) (ten : Int32) (byt : Nat → Int32) (e8 : Int64) (n : Int32) (htz : tsz ≤ 200) : mtR l g yX10_feed wsX10_feed rmX10_feed [.ref lh, .long e8, .int n] [cob lh 10 [.ref ak, .ref t, .ref yt, .ref xt, .int isk, .ref ltp, .ref lrw, .int (nI rc), .ref lac, .ref lsh, .ref lhh, .ref lhg, .ref lhr], cob ltp 7 [.ref lby, .int (nI tsz), .int tso, .int tst, .int ten], cby g lby 200 byt] (fun rv W => rv = (some (.int (f_X10_feed tsz n))) ∧ W = [cob lh 10 [.ref ak, .ref t, .ref yt, .ref xt, .int isk, .ref ltp, .ref lrw, .int (nI rc), .ref lac, .ref lsh, .ref lhh, .ref lhg, .ref lhr], cob ltp 7 [.ref lby, .int (f_X10_feed_w1 tsz n), .int tso, .int tst, .int ten], cby g lby 200 (f_X10_feed_w2 tsz byt e8 n)]) := by
  refine mtR.of (cc := cX10_feed) (nL := 4) (ret := (some .int)) (own := RX10) (by decide +kernel) rfl rfl (Nat.le_of_ble_eq_true rfl) (fun p e s m below meth c hf hr hlk _ hk hst hw ls hl => ?_)
  have hx := hf.1
  have hb := hf.2.1
  have hts := hf.2.2.2.2
  have hl : lv_has ls 4 [(0, .ref lh), (1, .long e8), (3, .int n)] := hl
  have hinX10 : ∀ w ∈ u_ws RX10 TX10 13, w ∈ wsX10_feed := fun w h => List.mem_cons_of_mem _ (List.mem_append_left _ (List.mem_append_right _ h))
  have w_0 : Cond.fieldLink RX10 53 "LightMan" "tape" "LLightMan$Tape;" ∈ wsX10_feed := List.mem_of_getElem? (i := 1) rfl
  have hinX7 : ∀ w ∈ u_ws RX7 TX7 5, w ∈ wsX10_feed := fun w h => List.mem_cons_of_mem _ (List.mem_append_right _ h)
  have w_1 : Cond.fieldLink RX10 95 "LightMan$Tape" "size" "I" ∈ wsX10_feed := List.mem_of_getElem? (i := 2) rfl
  refine lv_iload_n hx hb dX10_feed_0 rfl (lv_at hl 2 rfl) ?_
  refine lv_iconst (v := 1) hx hb dX10_feed_1 (by decide) ?_
  refine lv_bipush (v := 8) hx hb dX10_feed_2 (by decide) ?_
  refine mcS hf hk hst hw (c_X10_isOutside l g n 1 8) (va_cwS 3 hts gX10_feed_X10_isOutside rfl rfl rfl hdS_X10_isOutside ⟨Nat.le_of_ble_eq_true rfl, Nat.le_of_ble_eq_true rfl⟩) [] rfl rfl rfl hl.1 rfl (Nat.le_of_ble_eq_true rfl) dX10_feed_4 ⟨Nat.zero_le _, Nat.zero_le _⟩ (W' := [cob lh 10 [.ref ak, .ref t, .ref yt, .ref xt, .int isk, .ref ltp, .ref lrw, .int (nI rc), .ref lac, .ref lsh, .ref lhh, .ref lhg, .ref lhr], cob ltp 7 [.ref lby, .int (nI tsz), .int tso, .int tst, .int ten], cby g lby 200 byt]) rfl (fun H locs hw => ?_)
  refine lv_if_eq (tgt := 12) hx hb dX10_feed_7 (by decide) (fun c_1 => ?_) (fun c_1 => ?_)
  · have hn := out_n1 (M := 1) (N := 8) (by decide) (by decide) c_1
    have hn2 := hn.2.1
    have hn3 := hn.2.2
    refine lv_aload_n hx hb dX10_feed_12 rfl (lv_at hl 0 rfl) ?_
    refine rg hf hk hw hinX10 0 rfl rfl 5 (by decide) w_0 rfl dX10_feed_13 ?_
    refine lv_lload_n hx hb dX10_feed_16 rfl (lv_at hl 1 rfl) ?_
    refine lv_iload_n hx hb dX10_feed_17 rfl (lv_at hl 2 rfl) ?_
    refine lv_tope (y := nI (ix n)) hn.1 ?_
    refine mcV hf hk hst hw (c_X7_take l g lby tsz tso tst ten ltp byt e8 (ix n) (by omega) (by omega)) (cwV 2 hts gX10_feed_X7_take rfl rfl rfl hdV_X7_take ⟨Nat.le_of_ble_eq_true rfl, Nat.le_of_ble_eq_true rfl⟩) [1, 2] rfl rfl 1 rfl rfl rfl hl.1 rfl (Nat.le_of_ble_eq_true rfl) dX10_feed_18 ⟨Nat.zero_le _, Nat.zero_le _⟩ (W' := [cob lh 10 [.ref ak, .ref t, .ref yt, .ref xt, .int isk, .ref ltp, .ref lrw, .int (nI rc), .ref lac, .ref lsh, .ref lhh, .ref lhg, .ref lhr], cob ltp 7 [.ref lby, .int (nI (tkN tsz (ix n))), .int tso, .int tst, .int ten], cby g lby 200 (if nI (tsz + (ix n)) ≤ 200 then tkT byt tsz e8 (ix n) else byt)]) rfl (fun H locs hw => ?_)
    refine lv_if_eq (tgt := 34) hx hb dX10_feed_21 (by decide) (fun c_2 => ?_) (fun c_2 => ?_)
    · refine lv_bipush (v := (-2)) hx hb dX10_feed_34 (by decide) ?_
      exact rE_i hf hr hlk hw ⟨congrArg some (by simp only [f_X10_feed, if_pos c_1, if_pos c_2]), by simp only [f_X10_feed_w1, f_X10_feed_w2, if_pos c_1, if_pos c_2]⟩ (show ([lh, ltp, lby] : List Nat) = [lh, ltp, lby] from rfl) dX10_feed_36
    · refine lv_aload_n hx hb dX10_feed_24 rfl (lv_at hl 0 rfl) ?_
      refine rg hf hk hw hinX10 0 rfl rfl 5 (by decide) w_0 rfl dX10_feed_25 ?_
      refine rg hf hk hw hinX7 1 rfl rfl 1 (by decide) w_1 rfl dX10_feed_28 ?_
      refine lv_goto (tgt := 36) hx hb dX10_feed_31 (by decide) ?_
      exact rE_i hf hr hlk hw ⟨congrArg some (by simp only [f_X10_feed, if_pos c_1, if_neg c_2]), by simp only [f_X10_feed_w1, f_X10_feed_w2, if_pos c_1, if_neg c_2]⟩ (show ([lh, ltp, lby] : List Nat) = [lh, ltp, lby] from rfl) dX10_feed_36
  · refine lv_iconst (v := (-1)) hx hb dX10_feed_10 (by decide) ?_
    exact rE_i hf hr hlk hw ⟨congrArg some (by simp only [f_X10_feed, if_neg c_1]), by simp only [f_X10_feed_w1, f_X10_feed_w2, if_neg c_1]⟩ (show ([lh, ltp, lby] : List Nat) = [lh, ltp, lby] from rfl) dX10_feed_11
