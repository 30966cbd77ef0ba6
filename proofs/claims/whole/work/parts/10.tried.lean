/-! all of them behind k steps; bits counted; searches -/
def stA (laws fogs arms kinds : Nat → Int32) (cnt st : Nat) (fa pl mo : Nat → Int32) : Nat → (Nat → Int32) × (Nat → Int32) × (Nat → Int32)
  | 0 => (fa, pl, mo)
  | k + 1 => (goF laws fogs arms (st + k) kinds (stA laws fogs arms kinds cnt st fa pl mo k).1 (stA laws fogs arms kinds cnt st fa pl mo k).2.1 cnt, goP laws fogs arms (st + k) kinds (stA laws fogs arms kinds cnt st fa pl mo k).1 (stA laws fogs arms kinds cnt st fa pl mo k).2.1 cnt, goM laws fogs arms (st + k) kinds (stA laws fogs arms kinds cnt st fa pl mo k).2.1 (stA laws fogs arms kinds cnt st fa pl mo k).2.2 cnt)
def bc1 (x : Int32) : Int32 := x - ((x.toUInt32 >>> ((1 : Int32).toUInt32 &&& Int32.toUInt32 31)).toInt32 &&& 1431655765)
def bc2 (x : Int32) : Int32 := (x &&& 858993459) + ((x.toUInt32 >>> ((2 : Int32).toUInt32 &&& Int32.toUInt32 31)).toInt32 &&& 858993459)
def bc3 (x : Int32) : Int32 := (x + (x.toUInt32 >>> ((4 : Int32).toUInt32 &&& Int32.toUInt32 31)).toInt32) &&& 252645135
def bc4 (x : Int32) : Int32 := x + (x.toUInt32 >>> ((8 : Int32).toUInt32 &&& Int32.toUInt32 31)).toInt32
def bc5 (x : Int32) : Int32 := x + (x.toUInt32 >>> ((16 : Int32).toUInt32 &&& Int32.toUInt32 31)).toInt32
def bcF (x : Int32) : Int32 := bc5 (bc4 (bc3 (bc2 (bc1 x)))) &&& 63
theorem cp_k {a b f : Nat → Int32} {n : Nat} (h : f = cpT a b n) : ∀ j, j < n → f j = b j := fun j hj => by rw [h]; simp [cpT, hj]
theorem sumTo_c {f h : Nat → Int32} : ∀ {n : Nat}, (∀ j, j < n → f j = h j) → sumTo f n = sumTo h n
  | 0, _ => rfl
  | n + 1, e => by
    show sumTo f n + f n = sumTo h n + h n
    rw [sumTo_c (fun j hj => e j (Nat.lt_succ_of_lt hj)), e n (Nat.lt_succ_self n)]
theorem setTo_c {f h : Nat → Int32} : ∀ {n : Nat}, (∀ j, j < n → f j = h j) → setTo f n = setTo h n
  | 0, _ => rfl
  | n + 1, e => by
    show (if f n = 0 then setTo f n else setTo f n ||| (1 <<< (nI n &&& 31))) = (if h n = 0 then setTo h n else setTo h n ||| (1 <<< (nI n &&& 31)))
    rw [setTo_c (fun j hj => e j (Nat.lt_succ_of_lt hj)), e n (Nat.lt_succ_self n)]
theorem oneTo_c {f h : Nat → Int32} : ∀ {n : Nat}, (∀ j, j < n → f j = h j) → oneTo f n = oneTo h n
  | 0, _ => rfl
  | n + 1, e => by
    show (if f n = 0 then oneTo f n else oneTo f n + 1) = (if h n = 0 then oneTo h n else oneTo h n + 1)
    rw [oneTo_c (fun j hj => e j (Nat.lt_succ_of_lt hj)), e n (Nat.lt_succ_self n)]
theorem thrN_c {laws fogs arms : Nat → Int32} {st n c : Nat} {k1 f1 p1 m1 k2 f2 p2 m2 : Nat → Int32} (h1 : ∀ j, j < c → k1 j = k2 j) (h2 : ∀ j, j < c → f1 j = f2 j) (h3 : ∀ j, j < c → p1 j = p2 j) (h4 : ∀ j, j < c → m1 j = m2 j) : oneTo (thrN laws fogs arms st n k1 f1 p1 m1) c = oneTo (thrN laws fogs arms st n k2 f2 p2 m2) c :=
  oneTo_c (fun j hj => by unfold thrN; rw [h1 j hj, h2 j hj, h3 j hj, h4 j hj])
theorem goP_c {laws fogs arms : Nat → Int32} {st c : Nat} {k1 f1 p1 k2 f2 p2 : Nat → Int32} (h1 : ∀ j, j < c → k1 j = k2 j) (h2 : ∀ j, j < c → f1 j = f2 j) (h3 : ∀ j, j < c → p1 j = p2 j) : ∀ j, j < c → goP laws fogs arms st k1 f1 p1 c j = goP laws fogs arms st k2 f2 p2 c j := fun j hj => by
  unfold goP; simp only [if_pos hj]; rw [h1 j hj, h2 j hj, h3 j hj]
theorem goF_c {laws fogs arms : Nat → Int32} {st c : Nat} {k1 f1 p1 k2 f2 p2 : Nat → Int32} (h1 : ∀ j, j < c → k1 j = k2 j) (h2 : ∀ j, j < c → f1 j = f2 j) (h3 : ∀ j, j < c → p1 j = p2 j) : ∀ j, j < c → goF laws fogs arms st k1 f1 p1 c j = goF laws fogs arms st k2 f2 p2 c j := fun j hj => by
  unfold goF; simp only [if_pos hj]; rw [h1 j hj, h2 j hj, h3 j hj]
/-- the best of v 0, v 1, ..: the first greatest, and its worth -/
def mxB (v : Nat → Int32) : Nat → Int32 × Int32
  | 0 => (0, -1)
  | a + 1 => if v a ≤ (mxB v a).2 then mxB v a else (nI a, v a)
/-- downwards from m - 1: the first that isn't 0 -/
def dnR (q : Nat → Int32) : Nat → Int32
  | 0 => -3
  | m + 1 => if q m = 0 then dnR q m else nI m
/-- upwards from k, m of them: the first that isn't 0 -/
def upR (q : Nat → Int32) : Nat → Nat → Int32
  | 0, _ => -3
  | m + 1, k => if q k = 0 then upR q m (k + 1) else nI k
/-- behind how many steps one is through first; beyond 60: 61 -/
def snR (q : Nat → Int32) : Nat → Nat → Int32
  | 0, _ => 61
  | m + 1, k => if q k = 0 then snR q m (k + 1) else nI k
/-- the first step of a deed -/
def fsR (q : Nat → Int32) (deed : Int32) : Nat → Nat → Int32
  | 0, _ => -3
  | m + 1, k => if q k = deed then nI k + 1 else fsR q deed m (k + 1)
/-- one's deed in its (k+1)-th step -/
def itD (laws fogs arms : Nat → Int32) (kd : Int32) (st : Nat) (fa pl mo : Int32) : Nat → Int32 := fun k => n1D kd (fogs ((st + k) % 6)) (arms ((st + k) % 6)) (laws 0) (laws 1) (laws 2) (itG laws fogs arms kd st fa pl mo k).1 (itG laws fogs arms kd st fa pl mo k).2.1
def itT (laws fogs arms : Nat → Int32) (kd : Int32) (st : Nat) (fa pl mo : Int32) : Nat → Int32 := fun k => thrF (itG laws fogs arms kd st fa pl mo k).2.1

abbrev rmJ6_bitCount_0f7a4 : Room := { frames := 0, cells := 0, slots := 0, locals := 0 }
set_option maxHeartbeats 4000000 in
set_option maxRecDepth 100000 in
theorem c_J6_bitCount_0f7a4 (l : Launch) (g : GG) (x : Int32) : mt l g yJ6_bitCount_0f7a4 wsJ6_bitCount_0f7a4 rmJ6_bitCount_0f7a4 [.int x] [] (some (.int (bcF x))) [] := by
  refine mt.of (cc := cJ6_bitCount_0f7a4) (nL := 1) (ret := (some .int)) (own := RJ6) (by decide +kernel) rfl rfl (show ([] : List Nat) = [] from rfl) (Nat.le_of_ble_eq_true rfl) (fun p e s m below meth c hf hr hlk _ hk hst hw ls hl => ?_)
  have hx := hf.1
  have hb := hf.2.1
  have hts := hf.2.2.2.2
  have hl : lv_has ls 1 [(0, .int x)] := hl
  have w_0 : Cond.constant RJ6 265 (1431655765) ∈ wsJ6_bitCount_0f7a4 := List.mem_of_getElem? (i := 1) rfl
  have w_1 : Cond.constant RJ6 266 (858993459) ∈ wsJ6_bitCount_0f7a4 := List.mem_of_getElem? (i := 2) rfl
  have w_2 : Cond.constant RJ6 267 (252645135) ∈ wsJ6_bitCount_0f7a4 := List.mem_of_getElem? (i := 3) rfl
  refine lv_iload_n hx hb dJ6_bitCount_0f7a4_0 rfl (lv_at hl 0 rfl) ?_
  refine lv_iload_n hx hb dJ6_bitCount_0f7a4_1 rfl (lv_at hl 0 rfl) ?_
  refine lv_iconst (v := 1) hx hb dJ6_bitCount_0f7a4_2 (by decide) ?_
  refine lv_iushr hx hb dJ6_bitCount_0f7a4_3 rfl ?_
  refine lv_ldcw hx hb hf.2.2.2.1 (hts _ w_0) dJ6_bitCount_0f7a4_4 ?_
  refine lv_iand hx hb dJ6_bitCount_0f7a4_7 ?_
  refine lv_isub hx hb dJ6_bitCount_0f7a4_8 ?_
  refine lv_tope (y := bc1 x) (by simp only [bc1]) ?_
  refine lv_istore_n (lv' := [(0, .int (bc1 x))]) hx hb dJ6_bitCount_0f7a4_9 rfl hl (by decide) rfl (fun ls hl => ?_)
  refine lv_iload_n hx hb dJ6_bitCount_0f7a4_10 rfl (lv_at hl 0 rfl) ?_
  refine lv_ldcw hx hb hf.2.2.2.1 (hts _ w_1) dJ6_bitCount_0f7a4_11 ?_
  refine lv_iand hx hb dJ6_bitCount_0f7a4_14 ?_
  refine lv_iload_n hx hb dJ6_bitCount_0f7a4_15 rfl (lv_at hl 0 rfl) ?_
  refine lv_iconst (v := 2) hx hb dJ6_bitCount_0f7a4_16 (by decide) ?_
  refine lv_iushr hx hb dJ6_bitCount_0f7a4_17 rfl ?_
  refine lv_ldcw hx hb hf.2.2.2.1 (hts _ w_1) dJ6_bitCount_0f7a4_18 ?_
  refine lv_iand hx hb dJ6_bitCount_0f7a4_21 ?_
  refine lv_iadd hx hb dJ6_bitCount_0f7a4_22 ?_
  refine lv_tope (y := bc2 (bc1 x)) (by simp only [bc2]) ?_
  refine lv_istore_n (lv' := [(0, .int (bc2 (bc1 x)))]) hx hb dJ6_bitCount_0f7a4_23 rfl hl (by decide) rfl (fun ls hl => ?_)
  refine lv_iload_n hx hb dJ6_bitCount_0f7a4_24 rfl (lv_at hl 0 rfl) ?_
  refine lv_iload_n hx hb dJ6_bitCount_0f7a4_25 rfl (lv_at hl 0 rfl) ?_
  refine lv_iconst (v := 4) hx hb dJ6_bitCount_0f7a4_26 (by decide) ?_
  refine lv_iushr hx hb dJ6_bitCount_0f7a4_27 rfl ?_
  refine lv_iadd hx hb dJ6_bitCount_0f7a4_28 ?_
  refine lv_ldcw hx hb hf.2.2.2.1 (hts _ w_2) dJ6_bitCount_0f7a4_29 ?_
  refine lv_iand hx hb dJ6_bitCount_0f7a4_32 ?_
  refine lv_tope (y := bc3 (bc2 (bc1 x))) (by simp only [bc3]) ?_
  refine lv_istore_n (lv' := [(0, .int (bc3 (bc2 (bc1 x))))]) hx hb dJ6_bitCount_0f7a4_33 rfl hl (by decide) rfl (fun ls hl => ?_)
  refine lv_iload_n hx hb dJ6_bitCount_0f7a4_34 rfl (lv_at hl 0 rfl) ?_
  refine lv_iload_n hx hb dJ6_bitCount_0f7a4_35 rfl (lv_at hl 0 rfl) ?_
  refine lv_bipush (v := 8) hx hb dJ6_bitCount_0f7a4_36 (by decide) ?_
  refine lv_iushr hx hb dJ6_bitCount_0f7a4_38 rfl ?_
  refine lv_iadd hx hb dJ6_bitCount_0f7a4_39 ?_
  refine lv_tope (y := bc4 (bc3 (bc2 (bc1 x)))) (by simp only [bc4]) ?_
  refine lv_istore_n (lv' := [(0, .int (bc4 (bc3 (bc2 (bc1 x)))))]) hx hb dJ6_bitCount_0f7a4_40 rfl hl (by decide) rfl (fun ls hl => ?_)
  refine lv_iload_n hx hb dJ6_bitCount_0f7a4_41 rfl (lv_at hl 0 rfl) ?_
  refine lv_iload_n hx hb dJ6_bitCount_0f7a4_42 rfl (lv_at hl 0 rfl) ?_
  refine lv_bipush (v := 16) hx hb dJ6_bitCount_0f7a4_43 (by decide) ?_
  refine lv_iushr hx hb dJ6_bitCount_0f7a4_45 rfl ?_
  refine lv_iadd hx hb dJ6_bitCount_0f7a4_46 ?_
  refine lv_tope (y := bc5 (bc4 (bc3 (bc2 (bc1 x))))) (by simp only [bc5]) ?_
  refine lv_istore_n (lv' := [(0, .int (bc5 (bc4 (bc3 (bc2 (bc1 x))))))]) hx hb dJ6_bitCount_0f7a4_47 rfl hl (by decide) rfl (fun ls hl => ?_)
  refine lv_iload_n hx hb dJ6_bitCount_0f7a4_48 rfl (lv_at hl 0 rfl) ?_
  refine lv_bipush (v := 63) hx hb dJ6_bitCount_0f7a4_49 (by decide) ?_
  refine lv_iand hx hb dJ6_bitCount_0f7a4_51 ?_
  exact re_i hf hr hlk hw (by simp only [bcF]) (rfl) dJ6_bitCount_0f7a4_52
theorem hdS_J6_bitCount_0f7a4 : yJ6_bitCount_0f7a4.cls ≠ "java/lang/invoke/MethodHandle" ∧ yJ6_bitCount_0f7a4.cls ≠ "java/lang/invoke/VarHandle" ∧ (parseMethodDescriptor yJ6_bitCount_0f7a4.desc).map (fun d => d.parameters.length) = some 1 := by decide +kernel
abbrev rmX10_steps : Room := { frames := 6, cells := 0, slots := 0, locals := 138 }
set_option maxHeartbeats 4000000 in
set_option maxRecDepth 100000 in
theorem c_X10_steps (l : Launch) (g : GG) (lh : Nat) (t : Nat) (tl : Nat) (tf : Nat) (ta : Nat) (tk : Nat) (tg : Nat) (tp : Nat) (tm : Nat) (laws : Nat → Int32) (fogs : Nat → Int32) (arms : Nat → Int32) (kinds : Nat → Int32) (faiths : Nat → Int32) (places : Nat → Int32) (moved : Nat → Int32) (cnt : Nat) (stp : Nat) (z : Int32) (xt : Nat) (yt : Nat) (ak : Nat) (k0 : Nat) (k1 : Nat) (k2 : Nat) (k3 : Nat) (k4 : Nat) (k5 : Nat) (isk : Int32) (ltp : Nat) (lrw : Nat) (rc : Nat) (lac : Nat) (lsh : Nat) (lhh : Nat) (lhg : Nat) (lhr : Nat) (n : Int32) (hc8 : cnt ≤ 8) (hsp : stp < 2 ^ 29) (hkd : ∀ j, j < cnt → isK (kinds j)) : mtR l g yX10_steps wsX10_steps rmX10_steps [.ref lh, .int n] [cob lh 10 [.ref ak, .ref t, .ref yt, .ref xt, .int isk, .ref ltp, .ref lrw, .int (nI rc), .ref lac, .ref lsh, .ref lhh, .ref lhg, .ref lhr], cob t 8 [.ref ak, .ref tl, .ref tf, .ref ta, .ref tk, .ref tg, .ref tp, .ref tm, .int (nI cnt), .int (nI stp), .int z], cin g tl 4 laws, cin g tf 6 fogs, cin g ta 6 arms, cin g tk 8 kinds, cin g tg 8 faiths, cin g tp 8 places, cin g tm 8 moved, ckd g ak 6 (kdf k0 k1 k2 k3 k4 k5), cob k0 4 [], cob k1 2 [], cob k2 5 [], cob k3 6 [], cob k4 9 [], cob k5 1 []] (fun rv W => rv = (some (.int (if f_X10_isOutside n 1 60 = 0 then bcF (setTo (thrs (stA laws fogs arms kinds cnt stp faiths places moved (ix n)).2.1) cnt) else -1))) ∧ W = [cob lh 10 [.ref ak, .ref t, .ref yt, .ref xt, .int isk, .ref ltp, .ref lrw, .int (nI rc), .ref lac, .ref lsh, .ref lhh, .ref lhg, .ref lhr], cob t 8 [.ref ak, .ref tl, .ref tf, .ref ta, .ref tk, .ref tg, .ref tp, .ref tm, .int (nI cnt), .int (if f_X10_isOutside n 1 60 = 0 then nI (stp + ix n) else nI stp), .int z], cin g tl 4 laws, cin g tf 6 fogs, cin g ta 6 arms, cin g tk 8 kinds, cin g tg 8 (if f_X10_isOutside n 1 60 = 0 then (stA laws fogs arms kinds cnt stp faiths places moved (ix n)).1 else faiths), cin g tp 8 (if f_X10_isOutside n 1 60 = 0 then (stA laws fogs arms kinds cnt stp faiths places moved (ix n)).2.1 else places), cin g tm 8 (if f_X10_isOutside n 1 60 = 0 then (stA laws fogs arms kinds cnt stp faiths places moved (ix n)).2.2 else moved), ckd g ak 6 (kdf k0 k1 k2 k3 k4 k5), cob k0 4 [], cob k1 2 [], cob k2 5 [], cob k3 6 [], cob k4 9 [], cob k5 1 []]) := by
  refine mtR.of (cc := cX10_steps) (nL := 3) (ret := (some .int)) (own := RX10) (by decide +kernel) rfl rfl (Nat.le_of_ble_eq_true rfl) (fun p e s m below meth c hf hr hlk _ hk hst hw ls hl => ?_)
  have hx := hf.1
  have hb := hf.2.1
  have hts := hf.2.2.2.2
  have hl : lv_has ls 3 [(0, .ref lh), (1, .int n)] := hl
  have hinX10 : ∀ w ∈ u_ws RX10 TX10 13, w ∈ wsX10_steps := fun w h => List.mem_cons_of_mem _ (List.mem_append_left _ (List.mem_append_right _ h))
  have w_0 : Cond.fieldLink RX10 36 "LightMan" "now" "LLightMan$Tunnel;" ∈ wsX10_steps := List.mem_of_getElem? (i := 1) rfl
  refine lv_iload_n hx hb dX10_steps_0 rfl (lv_at hl 1 rfl) ?_
  refine lv_iconst (v := 1) hx hb dX10_steps_1 (by decide) ?_
  refine lv_bipush (v := 60) hx hb dX10_steps_2 (by decide) ?_
  refine mcS hf hk hst hw (c_X10_isOutside l g n 1 60) (va_cwS 3 hts gX10_steps_X10_isOutside rfl rfl rfl hdS_X10_isOutside ⟨Nat.le_of_ble_eq_true rfl, Nat.le_of_ble_eq_true rfl⟩) [] rfl rfl rfl hl.1 rfl (Nat.le_of_ble_eq_true rfl) dX10_steps_4 ⟨Nat.zero_le _, Nat.zero_le _⟩ (W' := [cob lh 10 [.ref ak, .ref t, .ref yt, .ref xt, .int isk, .ref ltp, .ref lrw, .int (nI rc), .ref lac, .ref lsh, .ref lhh, .ref lhg, .ref lhr], cob t 8 [.ref ak, .ref tl, .ref tf, .ref ta, .ref tk, .ref tg, .ref tp, .ref tm, .int (nI cnt), .int (nI stp), .int z], cin g tl 4 laws, cin g tf 6 fogs, cin g ta 6 arms, cin g tk 8 kinds, cin g tg 8 faiths, cin g tp 8 places, cin g tm 8 moved, ckd g ak 6 (kdf k0 k1 k2 k3 k4 k5), cob k0 4 [], cob k1 2 [], cob k2 5 [], cob k3 6 [], cob k4 9 [], cob k5 1 []]) rfl (fun H locs hw => ?_)
  refine lv_if_eq (tgt := 12) hx hb dX10_steps_7 (by decide) (fun c_1 => ?_) (fun c_1 => ?_)
  · have hn := out_n1 (M := 1) (N := 60) (by decide) (by decide) c_1
    have hn2 := hn.2.1
    have hn3 := hn.2.2
    refine lv_iconst (v := 0) hx hb dX10_steps_12 (by decide) ?_
    refine lv_istore_n (lv' := [(2, .int 0), (0, .ref lh), (1, .int n)]) hx hb dX10_steps_13 rfl hl (by decide) rfl (fun ls hl => ?_)
    have lp_14_1 : ∀ (fu k : Nat), k ≤ (ix n) → (ix n) + 1 ≤ k + fu → ∀ (H : Heap) (locs : List Loc), hv g (va_I [cob lh 10 [.ref ak, .ref t, .ref yt, .ref xt, .int isk, .ref ltp, .ref lrw, .int (nI rc), .ref lac, .ref lsh, .ref lhh, .ref lhg, .ref lhr], cob t 8 [.ref ak, .ref tl, .ref tf, .ref ta, .ref tk, .ref tg, .ref tp, .ref tm, .int (nI cnt), .int (nI stp), .int z], cin g tl 4 laws, cin g tf 6 fogs, cin g ta 6 arms, cin g tk 8 kinds, cin g tg 8 faiths, cin g tp 8 places, cin g tm 8 moved, ckd g ak 6 (kdf k0 k1 k2 k3 k4 k5), cob k0 4 [], cob k1 2 [], cob k2 5 [], cob k3 6 [], cob k4 9 [], cob k5 1 []]) s H locs [cob lh 10 [.ref ak, .ref t, .ref yt, .ref xt, .int isk, .ref ltp, .ref lrw, .int (nI rc), .ref lac, .ref lsh, .ref lhh, .ref lhg, .ref lhr], cob t 8 [.ref ak, .ref tl, .ref tf, .ref ta, .ref tk, .ref tg, .ref tp, .ref tm, .int (nI cnt), .int (nI (stp + k)), .int z], cin g tl 4 laws, cin g tf 6 fogs, cin g ta 6 arms, cin g tk 8 kinds, cin g tg 8 ((stA laws fogs arms kinds cnt stp faiths places moved k).1), cin g tp 8 ((stA laws fogs arms kinds cnt stp faiths places moved k).2.1), cin g tm 8 ((stA laws fogs arms kinds cnt stp faiths places moved k).2.2), ckd g ak 6 (kdf k0 k1 k2 k3 k4 k5), cob k0 4 [], cob k1 2 [], cob k2 5 [], cob k3 6 [], cob k4 9 [], cob k5 1 []] → ∀ ls : Array Slot, lv_has ls 3 [(2, .int (nI k)), (0, .ref lh), (1, .int n)] → W p l e rmX10_steps s m ([.ref lh, .int n] : List Value).toArray below meth c H locs 0 0 (MQ below (mtS g [cob lh 10 [.ref ak, .ref t, .ref yt, .ref xt, .int isk, .ref ltp, .ref lrw, .int (nI rc), .ref lac, .ref lsh, .ref lhh, .ref lhg, .ref lhr], cob t 8 [.ref ak, .ref tl, .ref tf, .ref ta, .ref tk, .ref tg, .ref tp, .ref tm, .int (nI cnt), .int (nI stp), .int z], cin g tl 4 laws, cin g tf 6 fogs, cin g ta 6 arms, cin g tk 8 kinds, cin g tg 8 faiths, cin g tp 8 places, cin g tm 8 moved, ckd g ak 6 (kdf k0 k1 k2 k3 k4 k5), cob k0 4 [], cob k1 2 [], cob k2 5 [], cob k3 6 [], cob k4 9 [], cob k5 1 []] (fun rv W => rv = (some (.int (if f_X10_isOutside n 1 60 = 0 then bcF (setTo (thrs (stA laws fogs arms kinds cnt stp faiths places moved (ix n)).2.1) cnt) else -1))) ∧ W = [cob lh 10 [.ref ak, .ref t, .ref yt, .ref xt, .int isk, .ref ltp, .ref lrw, .int (nI rc), .ref lac, .ref lsh, .ref lhh, .ref lhg, .ref lhr], cob t 8 [.ref ak, .ref tl, .ref tf, .ref ta, .ref tk, .ref tg, .ref tp, .ref tm, .int (nI cnt), .int (if f_X10_isOutside n 1 60 = 0 then nI (stp + ix n) else nI stp), .int z], cin g tl 4 laws, cin g tf 6 fogs, cin g ta 6 arms, cin g tk 8 kinds, cin g tg 8 (if f_X10_isOutside n 1 60 = 0 then (stA laws fogs arms kinds cnt stp faiths places moved (ix n)).1 else faiths), cin g tp 8 (if f_X10_isOutside n 1 60 = 0 then (stA laws fogs arms kinds cnt stp faiths places moved (ix n)).2.1 else places), cin g tm 8 (if f_X10_isOutside n 1 60 = 0 then (stA laws fogs arms kinds cnt stp faiths places moved (ix n)).2.2 else moved), ckd g ak 6 (kdf k0 k1 k2 k3 k4 k5), cob k0 4 [], cob k1 2 [], cob k2 5 [], cob k3 6 [], cob k4 9 [], cob k5 1 []])) ([.ref lh, .int n] : List Value).toArray s 0 0 (va_I [cob lh 10 [.ref ak, .ref t, .ref yt, .ref xt, .int isk, .ref ltp, .ref lrw, .int (nI rc), .ref lac, .ref lsh, .ref lhh, .ref lhg, .ref lhr], cob t 8 [.ref ak, .ref tl, .ref tf, .ref ta, .ref tk, .ref tg, .ref tp, .ref tm, .int (nI cnt), .int (nI stp), .int z], cin g tl 4 laws, cin g tf 6 fogs, cin g ta 6 arms, cin g tk 8 kinds, cin g tg 8 faiths, cin g tp 8 places, cin g tm 8 moved, ckd g ak 6 (kdf k0 k1 k2 k3 k4 k5), cob k0 4 [], cob k1 2 [], cob k2 5 [], cob k3 6 [], cob k4 9 [], cob k5 1 []])) (F0 m 14 ls []) := by
      intro fu
      induction fu with
      | zero =>
        intro k h1 h2
        exact absurd h2 (by omega)
      | succ fu ih_14 =>
        intro k hk1_14 hk2_14 H locs hw ls hl
        refine lv_iload_n hx hb dX10_steps_14 rfl (lv_at hl 0 rfl) ?_
        refine lv_iload_n hx hb dX10_steps_15 rfl (lv_at hl 2 rfl) ?_
        refine lv_tope (y := nI (ix n)) hn.1 ?_
        refine lv_icmp_ge (tgt := 32) hx hb dX10_steps_16 (by decide) (fun c_3 => ?_) (fun c_3 => ?_)
        · have hkE : k = ix n := Nat.le_antisymm hk1_14 ((nI_leI (by omega) (by omega)).mp c_3)
          refine lv_aload_n hx hb dX10_steps_32 rfl (lv_at hl 1 rfl) ?_
          refine rg hf hk hw hinX10 0 rfl rfl 1 (by decide) w_0 rfl dX10_steps_33 ?_
          refine mcV hf hk hst hw (c_X8_throughSet l g t tl tf ta tk tg tp tm ((stA laws fogs arms kinds cnt stp faiths places moved k).2.1) cnt (stp + k) z ak (by omega)) (cwV 0 hts gX10_steps_X8_throughSet rfl rfl rfl hdV_X8_throughSet ⟨Nat.le_of_ble_eq_true rfl, Nat.le_of_ble_eq_true rfl⟩) [1, 7] rfl rfl 1 rfl rfl rfl hl.1 rfl (Nat.le_of_ble_eq_true rfl) dX10_steps_36 ⟨Nat.zero_le _, Nat.zero_le _⟩ (W' := [cob lh 10 [.ref ak, .ref t, .ref yt, .ref xt, .int isk, .ref ltp, .ref lrw, .int (nI rc), .ref lac, .ref lsh, .ref lhh, .ref lhg, .ref lhr], cob t 8 [.ref ak, .ref tl, .ref tf, .ref ta, .ref tk, .ref tg, .ref tp, .ref tm, .int (nI cnt), .int (nI (stp + k)), .int z], cin g tl 4 laws, cin g tf 6 fogs, cin g ta 6 arms, cin g tk 8 kinds, cin g tg 8 ((stA laws fogs arms kinds cnt stp faiths places moved k).1), cin g tp 8 ((stA laws fogs arms kinds cnt stp faiths places moved k).2.1), cin g tm 8 ((stA laws fogs arms kinds cnt stp faiths places moved k).2.2), ckd g ak 6 (kdf k0 k1 k2 k3 k4 k5), cob k0 4 [], cob k1 2 [], cob k2 5 [], cob k3 6 [], cob k4 9 [], cob k5 1 []]) rfl (fun H locs hw => ?_)
          refine mcS hf hk hst hw (c_J6_bitCount_0f7a4 l g (setTo (thrs ((stA laws fogs arms kinds cnt stp faiths places moved k).2.1)) (cnt))) (va_cwS 1 hts gX10_steps_J6_bitCount_0f7a4 rfl rfl rfl hdS_J6_bitCount_0f7a4 ⟨Nat.le_of_ble_eq_true rfl, Nat.le_of_ble_eq_true rfl⟩) [] rfl rfl rfl hl.1 rfl (Nat.le_of_ble_eq_true rfl) dX10_steps_39 ⟨Nat.zero_le _, Nat.zero_le _⟩ (W' := [cob lh 10 [.ref ak, .ref t, .ref yt, .ref xt, .int isk, .ref ltp, .ref lrw, .int (nI rc), .ref lac, .ref lsh, .ref lhh, .ref lhg, .ref lhr], cob t 8 [.ref ak, .ref tl, .ref tf, .ref ta, .ref tk, .ref tg, .ref tp, .ref tm, .int (nI cnt), .int (nI (stp + k)), .int z], cin g tl 4 laws, cin g tf 6 fogs, cin g ta 6 arms, cin g tk 8 kinds, cin g tg 8 ((stA laws fogs arms kinds cnt stp faiths places moved k).1), cin g tp 8 ((stA laws fogs arms kinds cnt stp faiths places moved k).2.1), cin g tm 8 ((stA laws fogs arms kinds cnt stp faiths places moved k).2.2), ckd g ak 6 (kdf k0 k1 k2 k3 k4 k5), cob k0 4 [], cob k1 2 [], cob k2 5 [], cob k3 6 [], cob k4 9 [], cob k5 1 []]) rfl (fun H locs hw => ?_)
          exact rE_i hf hr hlk hw ⟨congrArg some (by simp only [if_pos c_1, hkE]), by simp only [if_pos c_1, hkE]⟩ (show ([lh, t, tl, tf, ta, tk, tg, tp, tm, ak, k0, k1, k2, k3, k4, k5] : List Nat) = [lh, t, tl, tf, ta, tk, tg, tp, tm, ak, k0, k1, k2, k3, k4, k5] from rfl) dX10_steps_42
        · have hkE : k < ix n := Nat.not_le.mp (fun h => c_3 ((nI_leI (by omega) (by omega)).mpr h))
          refine lv_aload_n hx hb dX10_steps_19 rfl (lv_at hl 1 rfl) ?_
          refine rg hf hk hw hinX10 0 rfl rfl 1 (by decide) w_0 rfl dX10_steps_20 ?_
          refine mcV hf hk hst hw (c_X8_goStep l g t tl tf ta tk tg tp tm laws fogs arms kinds ((stA laws fogs arms kinds cnt stp faiths places moved k).1) ((stA laws fogs arms kinds cnt stp faiths places moved k).2.1) ((stA laws fogs arms kinds cnt stp faiths places moved k).2.2) cnt (stp + k) z ak k0 k1 k2 k3 k4 k5 (by omega) (by omega) (by assumption)) (cwV 0 hts gX10_steps_X8_goStep rfl rfl rfl hdV_X8_goStep ⟨Nat.le_of_ble_eq_true rfl, Nat.le_of_ble_eq_true rfl⟩) [1, 2, 3, 4, 5, 6, 7, 8, 9, 10, 11, 12, 13, 14, 15] rfl rfl 1 rfl rfl rfl hl.1 rfl (Nat.le_of_ble_eq_true rfl) dX10_steps_23 ⟨Nat.zero_le _, Nat.zero_le _⟩ (W' := [cob lh 10 [.ref ak, .ref t, .ref yt, .ref xt, .int isk, .ref ltp, .ref lrw, .int (nI rc), .ref lac, .ref lsh, .ref lhh, .ref lhg, .ref lhr], cob t 8 [.ref ak, .ref tl, .ref tf, .ref ta, .ref tk, .ref tg, .ref tp, .ref tm, .int (nI cnt), .int (nI ((stp + k) + 1)), .int z], cin g tl 4 laws, cin g tf 6 fogs, cin g ta 6 arms, cin g tk 8 kinds, cin g tg 8 (goF laws fogs arms (stp + k) kinds ((stA laws fogs arms kinds cnt stp faiths places moved k).1) ((stA laws fogs arms kinds cnt stp faiths places moved k).2.1) cnt), cin g tp 8 (goP laws fogs arms (stp + k) kinds ((stA laws fogs arms kinds cnt stp faiths places moved k).1) ((stA laws fogs arms kinds cnt stp faiths places moved k).2.1) cnt), cin g tm 8 (goM laws fogs arms (stp + k) kinds ((stA laws fogs arms kinds cnt stp faiths places moved k).2.1) ((stA laws fogs arms kinds cnt stp faiths places moved k).2.2) cnt), ckd g ak 6 (kdf k0 k1 k2 k3 k4 k5), cob k0 4 [], cob k1 2 [], cob k2 5 [], cob k3 6 [], cob k4 9 [], cob k5 1 []]) rfl (fun H locs hw => ?_)
          refine lv_iinc (v := nI (k + 1)) (lv' := [(2, .int (nI (k + 1))), (0, .ref lh), (1, .int n)]) hx hb dX10_steps_26 hl (k := 0) rfl (nI_1 _) (by decide) rfl (fun ls hl => ?_)
          refine lv_goto (tgt := 14) hx hb dX10_steps_29 (by decide) ?_
          have e_1 : nI ((stp + k) + 1) = nI (stp + (k + 1)) := rfl
          rw [e_1] at hw
          have e_2 : goF laws fogs arms (stp + k) kinds ((stA laws fogs arms kinds cnt stp faiths places moved k).1) ((stA laws fogs arms kinds cnt stp faiths places moved k).2.1) cnt = (stA laws fogs arms kinds cnt stp faiths places moved (k + 1)).1 := rfl
          rw [e_2] at hw
          have e_3 : goP laws fogs arms (stp + k) kinds ((stA laws fogs arms kinds cnt stp faiths places moved k).1) ((stA laws fogs arms kinds cnt stp faiths places moved k).2.1) cnt = (stA laws fogs arms kinds cnt stp faiths places moved (k + 1)).2.1 := rfl
          rw [e_3] at hw
          have e_4 : goM laws fogs arms (stp + k) kinds ((stA laws fogs arms kinds cnt stp faiths places moved k).2.1) ((stA laws fogs arms kinds cnt stp faiths places moved k).2.2) cnt = (stA laws fogs arms kinds cnt stp faiths places moved (k + 1)).2.2 := rfl
          rw [e_4] at hw
          exact ih_14 (k + 1) (by omega) (by omega) _ _ hw _ (lv_sub hl [0, 1, 2] rfl)
    exact lp_14_1 ((ix n) + 1) 0 (by omega) (by omega) _ _ hw _ (lv_sub hl [0, 1, 2] rfl)
  · refine lv_iconst (v := (-1)) hx hb dX10_steps_10 (by decide) ?_
    exact rE_i hf hr hlk hw ⟨congrArg some (by simp only [if_neg c_1]), by simp only [if_neg c_1]⟩ (show ([lh, t, tl, tf, ta, tk, tg, tp, tm, ak, k0, k1, k2, k3, k4, k5] : List Nat) = [lh, t, tl, tf, ta, tk, tg, tp, tm, ak, k0, k1, k2, k3, k4, k5] from rfl) dX10_steps_11
theorem hdV_X8_goStepByDraws : yX8_goStepByDraws.cls = RX8 ∧ yX8_goStepByDraws.cls ≠ "java/lang/invoke/MethodHandle" ∧ yX8_goStepByDraws.cls ≠ "java/lang/invoke/VarHandle" ∧ (parseMethodDescriptor yX8_goStepByDraws.desc).map (fun d => d.parameters.length) = some 0 := by decide +kernel
abbrev rmX10_step : Room := { frames := 7, cells := 0, slots := 0, locals := 159 }
set_option maxHeartbeats 4000000 in
set_option maxRecDepth 100000 in
theorem c_X10_step (l : Launch) (g : GG) (lh : Nat) (t : Nat) (tl : Nat) (tf : Nat) (ta : Nat) (tk : Nat) (tg : Nat) (tp : Nat) (tm : Nat) (laws : Nat → Int32) (fogs : Nat → Int32) (arms : Nat → Int32) (kinds : Nat → Int32) (faiths : Nat → Int32) (places : Nat → Int32) (moved : Nat → Int32) (cnt : Nat) (stp : Nat) (z : Int32) (xt : Nat) (yt : Nat) (ak : Nat) (k0 : Nat) (k1 : Nat) (k2 : Nat) (k3 : Nat) (k4 : Nat) (k5 : Nat) (isk : Int32) (ltp : Nat) (lrw : Nat) (rc : Nat) (lac : Nat) (lsh : Nat) (lhh : Nat) (lhg : Nat) (lhr : Nat) (hc8 : cnt ≤ 8) (hsp : stp < 2 ^ 29) (hkd : ∀ j, j < cnt → isK (kinds j)) : mtR l g yX10_step wsX10_step rmX10_step [.ref lh] [cob lh 10 [.ref ak, .ref t, .ref yt, .ref xt, .int isk, .ref ltp, .ref lrw, .int (nI rc), .ref lac, .ref lsh, .ref lhh, .ref lhg, .ref lhr], cob t 8 [.ref ak, .ref tl, .ref tf, .ref ta, .ref tk, .ref tg, .ref tp, .ref tm, .int (nI cnt), .int (nI stp), .int z], cin g tl 4 laws, cin g tf 6 fogs, cin g ta 6 arms, cin g tk 8 kinds, cin g tg 8 faiths, cin g tp 8 places, cin g tm 8 moved, ckd g ak 6 (kdf k0 k1 k2 k3 k4 k5), cob k0 4 [], cob k1 2 [], cob k2 5 [], cob k3 6 [], cob k4 9 [], cob k5 1 []] (fun rv W => rv = (some (.int (bcF (setTo (thrs (goP laws fogs arms stp kinds (drF laws faiths z cnt) places cnt)) (cnt))))) ∧ W = [cob lh 10 [.ref ak, .ref t, .ref yt, .ref xt, .int isk, .ref ltp, .ref lrw, .int (nI rc), .ref lac, .ref lsh, .ref lhh, .ref lhg, .ref lhr], cob t 8 [.ref ak, .ref tl, .ref tf, .ref ta, .ref tk, .ref tg, .ref tp, .ref tm, .int (nI cnt), .int (nI (stp + 1)), .int (drZ2 z cnt)], cin g tl 4 laws, cin g tf 6 fogs, cin g ta 6 arms, cin g tk 8 kinds, cin g tg 8 (goF laws fogs arms stp kinds (drF laws faiths z cnt) places cnt), cin g tp 8 (goP laws fogs arms stp kinds (drF laws faiths z cnt) places cnt), cin g tm 8 (goM laws fogs arms stp kinds places moved cnt), ckd g ak 6 (kdf k0 k1 k2 k3 k4 k5), cob k0 4 [], cob k1 2 [], cob k2 5 [], cob k3 6 [], cob k4 9 [], cob k5 1 []]) := by
  refine mtR.of (cc := cX10_step) (nL := 1) (ret := (some .int)) (own := RX10) (by decide +kernel) rfl rfl (Nat.le_of_ble_eq_true rfl) (fun p e s m below meth c hf hr hlk _ hk hst hw ls hl => ?_)
  have hx := hf.1
  have hb := hf.2.1
  have hts := hf.2.2.2.2
  have hl : lv_has ls 1 [(0, .ref lh)] := hl
  have hinX10 : ∀ w ∈ u_ws RX10 TX10 13, w ∈ wsX10_step := fun w h => List.mem_cons_of_mem _ (List.mem_append_left _ (List.mem_append_right _ h))
  have w_0 : Cond.fieldLink RX10 36 "LightMan" "now" "LLightMan$Tunnel;" ∈ wsX10_step := List.mem_of_getElem? (i := 1) rfl
  refine lv_aload_n hx hb dX10_step_0 rfl (lv_at hl 0 rfl) ?_
  refine rg hf hk hw hinX10 0 rfl rfl 1 (by decide) w_0 rfl dX10_step_1 ?_
  refine mcV hf hk hst hw (c_X8_goStepByDraws l g t tl tf ta tk tg tp tm laws fogs arms kinds faiths places moved cnt stp z ak k0 k1 k2 k3 k4 k5 (by omega) (by omega) (by assumption)) (cwV 0 hts gX10_step_X8_goStepByDraws rfl rfl rfl hdV_X8_goStepByDraws ⟨Nat.le_of_ble_eq_true rfl, Nat.le_of_ble_eq_true rfl⟩) [1, 2, 3, 4, 5, 6, 7, 8, 9, 10, 11, 12, 13, 14, 15] rfl rfl 1 rfl rfl rfl hl.1 rfl (Nat.le_of_ble_eq_true rfl) dX10_step_4 ⟨Nat.zero_le _, Nat.zero_le _⟩ (W' := [cob lh 10 [.ref ak, .ref t, .ref yt, .ref xt, .int isk, .ref ltp, .ref lrw, .int (nI rc), .ref lac, .ref lsh, .ref lhh, .ref lhg, .ref lhr], cob t 8 [.ref ak, .ref tl, .ref tf, .ref ta, .ref tk, .ref tg, .ref tp, .ref tm, .int (nI cnt), .int (nI (stp + 1)), .int (drZ2 z cnt)], cin g tl 4 laws, cin g tf 6 fogs, cin g ta 6 arms, cin g tk 8 kinds, cin g tg 8 (goF laws fogs arms stp kinds (drF laws faiths z cnt) places cnt), cin g tp 8 (goP laws fogs arms stp kinds (drF laws faiths z cnt) places cnt), cin g tm 8 (goM laws fogs arms stp kinds places moved cnt), ckd g ak 6 (kdf k0 k1 k2 k3 k4 k5), cob k0 4 [], cob k1 2 [], cob k2 5 [], cob k3 6 [], cob k4 9 [], cob k5 1 []]) rfl (fun H locs hw => ?_)
  refine lv_aload_n hx hb dX10_step_7 rfl (lv_at hl 0 rfl) ?_
  refine rg hf hk hw hinX10 0 rfl rfl 1 (by decide) w_0 rfl dX10_step_8 ?_
  refine mcV hf hk hst hw (c_X8_throughSet l g t tl tf ta tk tg tp tm (goP laws fogs arms stp kinds (drF laws faiths z cnt) places cnt) cnt (stp + 1) (drZ2 z cnt) ak (by omega)) (cwV 0 hts gX10_step_X8_throughSet rfl rfl rfl hdV_X8_throughSet ⟨Nat.le_of_ble_eq_true rfl, Nat.le_of_ble_eq_true rfl⟩) [1, 7] rfl rfl 1 rfl rfl rfl hl.1 rfl (Nat.le_of_ble_eq_true rfl) dX10_step_11 ⟨Nat.zero_le _, Nat.zero_le _⟩ (W' := [cob lh 10 [.ref ak, .ref t, .ref yt, .ref xt, .int isk, .ref ltp, .ref lrw, .int (nI rc), .ref lac, .ref lsh, .ref lhh, .ref lhg, .ref lhr], cob t 8 [.ref ak, .ref tl, .ref tf, .ref ta, .ref tk, .ref tg, .ref tp, .ref tm, .int (nI cnt), .int (nI (stp + 1)), .int (drZ2 z cnt)], cin g tl 4 laws, cin g tf 6 fogs, cin g ta 6 arms, cin g tk 8 kinds, cin g tg 8 (goF laws fogs arms stp kinds (drF laws faiths z cnt) places cnt), cin g tp 8 (goP laws fogs arms stp kinds (drF laws faiths z cnt) places cnt), cin g tm 8 (goM laws fogs arms stp kinds places moved cnt), ckd g ak 6 (kdf k0 k1 k2 k3 k4 k5), cob k0 4 [], cob k1 2 [], cob k2 5 [], cob k3 6 [], cob k4 9 [], cob k5 1 []]) rfl (fun H locs hw => ?_)
  refine mcS hf hk hst hw (c_J6_bitCount_0f7a4 l g (setTo (thrs (goP laws fogs arms stp kinds (drF laws faiths z cnt) places cnt)) (cnt))) (va_cwS 1 hts gX10_step_J6_bitCount_0f7a4 rfl rfl rfl hdS_J6_bitCount_0f7a4 ⟨Nat.le_of_ble_eq_true rfl, Nat.le_of_ble_eq_true rfl⟩) [] rfl rfl rfl hl.1 rfl (Nat.le_of_ble_eq_true rfl) dX10_step_14 ⟨Nat.zero_le _, Nat.zero_le _⟩ (W' := [cob lh 10 [.ref ak, .ref t, .ref yt, .ref xt, .int isk, .ref ltp, .ref lrw, .int (nI rc), .ref lac, .ref lsh, .ref lhh, .ref lhg, .ref lhr], cob t 8 [.ref ak, .ref tl, .ref tf, .ref ta, .ref tk, .ref tg, .ref tp, .ref tm, .int (nI cnt), .int (nI (stp + 1)), .int (drZ2 z cnt)], cin g tl 4 laws, cin g tf 6 fogs, cin g ta 6 arms, cin g tk 8 kinds, cin g tg 8 (goF laws fogs arms stp kinds (drF laws faiths z cnt) places cnt), cin g tp 8 (goP laws fogs arms stp kinds (drF laws faiths z cnt) places cnt), cin g tm 8 (goM laws fogs arms stp kinds places moved cnt), ckd g ak 6 (kdf k0 k1 k2 k3 k4 k5), cob k0 4 [], cob k1 2 [], cob k2 5 [], cob k3 6 [], cob k4 9 [], cob k5 1 []]) rfl (fun H locs hw => ?_)
  exact rE_i hf hr hlk hw ⟨rfl, rfl⟩ (show ([lh, t, tl, tf, ta, tk, tg, tp, tm, ak, k0, k1, k2, k3, k4, k5] : List Nat) = [lh, t, tl, tf, ta, tk, tg, tp, tm, ak, k0, k1, k2, k3, k4, k5] from rfl) dX10_step_17
theorem hdV_X8_seeingSet : yX8_seeingSet.cls = RX8 ∧ yX8_seeingSet.cls ≠ "java/lang/invoke/MethodHandle" ∧ yX8_seeingSet.cls ≠ "java/lang/invoke/VarHandle" ∧ (parseMethodDescriptor yX8_seeingSet.desc).map (fun d => d.parameters.length) = some 0 := by decide +kernel
theorem hdV_X8_faithTogether : yX8_faithTogether.cls = RX8 ∧ yX8_faithTogether.cls ≠ "java/lang/invoke/MethodHandle" ∧ yX8_faithTogether.cls ≠ "java/lang/invoke/VarHandle" ∧ (parseMethodDescriptor yX8_faithTogether.desc).map (fun d => d.parameters.length) = some 0 := by decide +kernel
theorem hdV_X8_placesTogether : yX8_placesTogether.cls = RX8 ∧ yX8_placesTogether.cls ≠ "java/lang/invoke/MethodHandle" ∧ yX8_placesTogether.cls ≠ "java/lang/invoke/VarHandle" ∧ (parseMethodDescriptor yX8_placesTogether.desc).map (fun d => d.parameters.length) = some 0 := by decide +kernel
def f_X10_state (laws : Nat → Int32) (fogs : Nat → Int32) (arms : Nat → Int32) (kinds : Nat → Int32) (faiths : Nat → Int32) (places : Nat → Int32) (cnt : Nat) (stp : Nat) (what : Int32) : Int32 := if what = 0 then (nI stp) else (if what = 1 then (setTo (thrs places) (cnt)) else (if what = 2 then (setTo (snows laws fogs arms stp kinds places) (cnt)) else (if what = 3 then (sumTo faiths (cnt)) else (if what = 4 then (sumTo places (cnt)) else (if what = 5 then (if (laws 1) ≤ (laws 2) then 0 else 1) else (-1))))))
abbrev rmX10_state : Room := { frames := 6, cells := 0, slots := 0, locals := 135 }
set_option maxHeartbeats 4000000 in
set_option maxRecDepth 100000 in
theorem c_X10_state (l : Launch) (g : GG) (lh : Nat) (t : Nat) (tl : Nat) (tf : Nat) (ta : Nat) (tk : Nat) (tg : Nat) (tp : Nat) (tm : Nat) (laws : Nat → Int32) (fogs : Nat → Int32) (arms : Nat → Int32) (kinds : Nat → Int32) (faiths : Nat → Int32) (places : Nat → Int32) (moved : Nat → Int32) (cnt : Nat) (stp : Nat) (z : Int32) (xt : Nat) (yt : Nat) (ak : Nat) (k0 : Nat) (k1 : Nat) (k2 : Nat) (k3 : Nat) (k4 : Nat) (k5 : Nat) (isk : Int32) (ltp : Nat) (lrw : Nat) (rc : Nat) (lac : Nat) (lsh : Nat) (lhh : Nat) (lhg : Nat) (lhr : Nat) (what : Int32) (hc8 : cnt ≤ 8) (hsp : stp < 2 ^ 29) (hkd : ∀ j, j < cnt → isK (kinds j)) : mtR l g yX10_state wsX10_state rmX10_state [.ref lh, .int what] [cob lh 10 [.ref ak, .ref t, .ref yt, .ref xt, .int isk, .ref ltp, .ref lrw, .int (nI rc), .ref lac, .ref lsh, .ref lhh, .ref lhg, .ref lhr], cob t 8 [.ref ak, .ref tl, .ref tf, .ref ta, .ref tk, .ref tg, .ref tp, .ref tm, .int (nI cnt), .int (nI stp), .int z], cin g tl 4 laws, cin g tf 6 fogs, cin g ta 6 arms, cin g tk 8 kinds, cin g tg 8 faiths, cin g tp 8 places, cin g tm 8 moved, ckd g ak 6 (kdf k0 k1 k2 k3 k4 k5), cob k0 4 [], cob k1 2 [], cob k2 5 [], cob k3 6 [], cob k4 9 [], cob k5 1 []] (fun rv W => rv = (some (.int (f_X10_state laws fogs arms kinds faiths places cnt stp what))) ∧ W = [cob lh 10 [.ref ak, .ref t, .ref yt, .ref xt, .int isk, .ref ltp, .ref lrw, .int (nI rc), .ref lac, .ref lsh, .ref lhh, .ref lhg, .ref lhr], cob t 8 [.ref ak, .ref tl, .ref tf, .ref ta, .ref tk, .ref tg, .ref tp, .ref tm, .int (nI cnt), .int (nI stp), .int z], cin g tl 4 laws, cin g tf 6 fogs, cin g ta 6 arms, cin g tk 8 kinds, cin g tg 8 faiths, cin g tp 8 places, cin g tm 8 moved, ckd g ak 6 (kdf k0 k1 k2 k3 k4 k5), cob k0 4 [], cob k1 2 [], cob k2 5 [], cob k3 6 [], cob k4 9 [], cob k5 1 []]) := by
  refine mtR.of (cc := cX10_state) (nL := 2) (ret := (some .int)) (own := RX10) (by decide +kernel) rfl rfl (Nat.le_of_ble_eq_true rfl) (fun p e s m below meth c hf hr hlk _ hk hst hw ls hl => ?_)
  have hx := hf.1
  have hb := hf.2.1
  have hts := hf.2.2.2.2
  have hl : lv_has ls 2 [(0, .ref lh), (1, .int what)] := hl
  have hinX10 : ∀ w ∈ u_ws RX10 TX10 13, w ∈ wsX10_state := fun w h => List.mem_cons_of_mem _ (List.mem_append_left _ (List.mem_append_right _ h))
  have w_0 : Cond.fieldLink RX10 36 "LightMan" "now" "LLightMan$Tunnel;" ∈ wsX10_state := List.mem_of_getElem? (i := 1) rfl
  have hinX8 : ∀ w ∈ u_ws RX8 TX8 11, w ∈ wsX10_state := fun w h => List.mem_cons_of_mem _ (List.mem_append_right _ h)
  have w_1 : Cond.fieldLink RX10 155 "LightMan$Tunnel" "stepNumber" "I" ∈ wsX10_state := List.mem_of_getElem? (i := 2) rfl
  have w_2 : Cond.fieldLink RX10 115 "LightMan$Tunnel" "laws" "[I" ∈ wsX10_state := List.mem_of_getElem? (i := 3) rfl
  refine lv_iload_n hx hb dX10_state_0 rfl (lv_at hl 1 rfl) ?_
  by_cases c_2 : what = 0
  · refine lv_tableIn (off := 39) (tgt := 40) hx hb dX10_state_1 (by rw [c_2]; decide) (by rw [c_2]; decide) (by rw [c_2]; rfl) (by decide) ?_
    refine lv_aload_n hx hb dX10_state_40 rfl (lv_at hl 0 rfl) ?_
    refine rg hf hk hw hinX10 0 rfl rfl 1 (by decide) w_0 rfl dX10_state_41 ?_
    refine rg hf hk hw hinX8 1 rfl rfl 9 (by decide) w_1 rfl dX10_state_44 ?_
    exact rE_i hf hr hlk hw ⟨congrArg some (by simp only [f_X10_state, if_pos c_2]), rfl⟩ (show ([lh, t, tl, tf, ta, tk, tg, tp, tm, ak, k0, k1, k2, k3, k4, k5] : List Nat) = [lh, t, tl, tf, ta, tk, tg, tp, tm, ak, k0, k1, k2, k3, k4, k5] from rfl) dX10_state_47
  by_cases c_3 : what = 1
  · refine lv_tableIn (off := 47) (tgt := 48) hx hb dX10_state_1 (by rw [c_3]; decide) (by rw [c_3]; decide) (by rw [c_3]; rfl) (by decide) ?_
    refine lv_aload_n hx hb dX10_state_48 rfl (lv_at hl 0 rfl) ?_
    refine rg hf hk hw hinX10 0 rfl rfl 1 (by decide) w_0 rfl dX10_state_49 ?_
    refine mcV hf hk hst hw (c_X8_throughSet l g t tl tf ta tk tg tp tm places cnt stp z ak (by omega)) (cwV 0 hts gX10_state_X8_throughSet rfl rfl rfl hdV_X8_throughSet ⟨Nat.le_of_ble_eq_true rfl, Nat.le_of_ble_eq_true rfl⟩) [1, 7] rfl rfl 1 rfl rfl rfl hl.1 rfl (Nat.le_of_ble_eq_true rfl) dX10_state_52 ⟨Nat.zero_le _, Nat.zero_le _⟩ (W' := [cob lh 10 [.ref ak, .ref t, .ref yt, .ref xt, .int isk, .ref ltp, .ref lrw, .int (nI rc), .ref lac, .ref lsh, .ref lhh, .ref lhg, .ref lhr], cob t 8 [.ref ak, .ref tl, .ref tf, .ref ta, .ref tk, .ref tg, .ref tp, .ref tm, .int (nI cnt), .int (nI stp), .int z], cin g tl 4 laws, cin g tf 6 fogs, cin g ta 6 arms, cin g tk 8 kinds, cin g tg 8 faiths, cin g tp 8 places, cin g tm 8 moved, ckd g ak 6 (kdf k0 k1 k2 k3 k4 k5), cob k0 4 [], cob k1 2 [], cob k2 5 [], cob k3 6 [], cob k4 9 [], cob k5 1 []]) rfl (fun H locs hw => ?_)
    exact rE_i hf hr hlk hw ⟨congrArg some (by simp only [f_X10_state, if_neg c_2, if_pos c_3]), rfl⟩ (show ([lh, t, tl, tf, ta, tk, tg, tp, tm, ak, k0, k1, k2, k3, k4, k5] : List Nat) = [lh, t, tl, tf, ta, tk, tg, tp, tm, ak, k0, k1, k2, k3, k4, k5] from rfl) dX10_state_55
  by_cases c_4 : what = 2
  · refine lv_tableIn (off := 55) (tgt := 56) hx hb dX10_state_1 (by rw [c_4]; decide) (by rw [c_4]; decide) (by rw [c_4]; rfl) (by decide) ?_
    refine lv_aload_n hx hb dX10_state_56 rfl (lv_at hl 0 rfl) ?_
    refine rg hf hk hw hinX10 0 rfl rfl 1 (by decide) w_0 rfl dX10_state_57 ?_
    refine mcV hf hk hst hw (c_X8_seeingSet l g t tl tf ta tk tg tp tm laws fogs arms kinds faiths places moved cnt stp z ak k0 k1 k2 k3 k4 k5 (by omega) (by omega) (by assumption)) (cwV 0 hts gX10_state_X8_seeingSet rfl rfl rfl hdV_X8_seeingSet ⟨Nat.le_of_ble_eq_true rfl, Nat.le_of_ble_eq_true rfl⟩) [1, 2, 3, 4, 5, 6, 7, 8, 9, 10, 11, 12, 13, 14, 15] rfl rfl 1 rfl rfl rfl hl.1 rfl (Nat.le_of_ble_eq_true rfl) dX10_state_60 ⟨Nat.zero_le _, Nat.zero_le _⟩ (W' := [cob lh 10 [.ref ak, .ref t, .ref yt, .ref xt, .int isk, .ref ltp, .ref lrw, .int (nI rc), .ref lac, .ref lsh, .ref lhh, .ref lhg, .ref lhr], cob t 8 [.ref ak, .ref tl, .ref tf, .ref ta, .ref tk, .ref tg, .ref tp, .ref tm, .int (nI cnt), .int (nI stp), .int z], cin g tl 4 laws, cin g tf 6 fogs, cin g ta 6 arms, cin g tk 8 kinds, cin g tg 8 faiths, cin g tp 8 places, cin g tm 8 moved, ckd g ak 6 (kdf k0 k1 k2 k3 k4 k5), cob k0 4 [], cob k1 2 [], cob k2 5 [], cob k3 6 [], cob k4 9 [], cob k5 1 []]) rfl (fun H locs hw => ?_)
    exact rE_i hf hr hlk hw ⟨congrArg some (by simp only [f_X10_state, if_neg c_2, if_neg c_3, if_pos c_4]), rfl⟩ (show ([lh, t, tl, tf, ta, tk, tg, tp, tm, ak, k0, k1, k2, k3, k4, k5] : List Nat) = [lh, t, tl, tf, ta, tk, tg, tp, tm, ak, k0, k1, k2, k3, k4, k5] from rfl) dX10_state_63
  by_cases c_5 : what = 3
  · refine lv_tableIn (off := 63) (tgt := 64) hx hb dX10_state_1 (by rw [c_5]; decide) (by rw [c_5]; decide) (by rw [c_5]; rfl) (by decide) ?_
    refine lv_aload_n hx hb dX10_state_64 rfl (lv_at hl 0 rfl) ?_
    refine rg hf hk hw hinX10 0 rfl rfl 1 (by decide) w_0 rfl dX10_state_65 ?_
    refine mcV hf hk hst hw (c_X8_faithTogether l g t tl tf ta tk tg tp tm faiths cnt stp z ak (by omega)) (cwV 0 hts gX10_state_X8_faithTogether rfl rfl rfl hdV_X8_faithTogether ⟨Nat.le_of_ble_eq_true rfl, Nat.le_of_ble_eq_true rfl⟩) [1, 6] rfl rfl 1 rfl rfl rfl hl.1 rfl (Nat.le_of_ble_eq_true rfl) dX10_state_68 ⟨Nat.zero_le _, Nat.zero_le _⟩ (W' := [cob lh 10 [.ref ak, .ref t, .ref yt, .ref xt, .int isk, .ref ltp, .ref lrw, .int (nI rc), .ref lac, .ref lsh, .ref lhh, .ref lhg, .ref lhr], cob t 8 [.ref ak, .ref tl, .ref tf, .ref ta, .ref tk, .ref tg, .ref tp, .ref tm, .int (nI cnt), .int (nI stp), .int z], cin g tl 4 laws, cin g tf 6 fogs, cin g ta 6 arms, cin g tk 8 kinds, cin g tg 8 faiths, cin g tp 8 places, cin g tm 8 moved, ckd g ak 6 (kdf k0 k1 k2 k3 k4 k5), cob k0 4 [], cob k1 2 [], cob k2 5 [], cob k3 6 [], cob k4 9 [], cob k5 1 []]) rfl (fun H locs hw => ?_)
    exact rE_i hf hr hlk hw ⟨congrArg some (by simp only [f_X10_state, if_neg c_2, if_neg c_3, if_neg c_4, if_pos c_5]), rfl⟩ (show ([lh, t, tl, tf, ta, tk, tg, tp, tm, ak, k0, k1, k2, k3, k4, k5] : List Nat) = [lh, t, tl, tf, ta, tk, tg, tp, tm, ak, k0, k1, k2, k3, k4, k5] from rfl) dX10_state_71
  by_cases c_6 : what = 4
  · refine lv_tableIn (off := 71) (tgt := 72) hx hb dX10_state_1 (by rw [c_6]; decide) (by rw [c_6]; decide) (by rw [c_6]; rfl) (by decide) ?_
    refine lv_aload_n hx hb dX10_state_72 rfl (lv_at hl 0 rfl) ?_
    refine rg hf hk hw hinX10 0 rfl rfl 1 (by decide) w_0 rfl dX10_state_73 ?_
    refine mcV hf hk hst hw (c_X8_placesTogether l g t tl tf ta tk tg tp tm places cnt stp z ak (by omega)) (cwV 0 hts gX10_state_X8_placesTogether rfl rfl rfl hdV_X8_placesTogether ⟨Nat.le_of_ble_eq_true rfl, Nat.le_of_ble_eq_true rfl⟩) [1, 7] rfl rfl 1 rfl rfl rfl hl.1 rfl (Nat.le_of_ble_eq_true rfl) dX10_state_76 ⟨Nat.zero_le _, Nat.zero_le _⟩ (W' := [cob lh 10 [.ref ak, .ref t, .ref yt, .ref xt, .int isk, .ref ltp, .ref lrw, .int (nI rc), .ref lac, .ref lsh, .ref lhh, .ref lhg, .ref lhr], cob t 8 [.ref ak, .ref tl, .ref tf, .ref ta, .ref tk, .ref tg, .ref tp, .ref tm, .int (nI cnt), .int (nI stp), .int z], cin g tl 4 laws, cin g tf 6 fogs, cin g ta 6 arms, cin g tk 8 kinds, cin g tg 8 faiths, cin g tp 8 places, cin g tm 8 moved, ckd g ak 6 (kdf k0 k1 k2 k3 k4 k5), cob k0 4 [], cob k1 2 [], cob k2 5 [], cob k3 6 [], cob k4 9 [], cob k5 1 []]) rfl (fun H locs hw => ?_)
    exact rE_i hf hr hlk hw ⟨congrArg some (by simp only [f_X10_state, if_neg c_2, if_neg c_3, if_neg c_4, if_neg c_5, if_pos c_6]), rfl⟩ (show ([lh, t, tl, tf, ta, tk, tg, tp, tm, ak, k0, k1, k2, k3, k4, k5] : List Nat) = [lh, t, tl, tf, ta, tk, tg, tp, tm, ak, k0, k1, k2, k3, k4, k5] from rfl) dX10_state_79
  by_cases c_7 : what = 5
  · refine lv_tableIn (off := 79) (tgt := 80) hx hb dX10_state_1 (by rw [c_7]; decide) (by rw [c_7]; decide) (by rw [c_7]; rfl) (by decide) ?_
    refine lv_aload_n hx hb dX10_state_80 rfl (lv_at hl 0 rfl) ?_
    refine rg hf hk hw hinX10 0 rfl rfl 1 (by decide) w_0 rfl dX10_state_81 ?_
    refine rg hf hk hw hinX8 1 rfl rfl 1 (by decide) w_2 rfl dX10_state_84 ?_
    refine lv_iconst (v := 2) hx hb dX10_state_87 (by decide) ?_
    refine rij hf hk hw 2 rfl (j := 2) (vp_in_nI (n := 2) (by omega) (by omega)) (rfl) dX10_state_88 ?_
    refine lv_aload_n hx hb dX10_state_89 rfl (lv_at hl 0 rfl) ?_
    refine rg hf hk hw hinX10 0 rfl rfl 1 (by decide) w_0 rfl dX10_state_90 ?_
    refine rg hf hk hw hinX8 1 rfl rfl 1 (by decide) w_2 rfl dX10_state_93 ?_
    refine lv_iconst (v := 1) hx hb dX10_state_96 (by decide) ?_
    refine rij hf hk hw 2 rfl (j := 1) (vp_in_nI (n := 1) (by omega) (by omega)) (rfl) dX10_state_97 ?_
    refine lv_icmp_ge (tgt := 105) hx hb dX10_state_98 (by decide) (fun c_8 => ?_) (fun c_8 => ?_)
    · refine lv_iconst (v := 0) hx hb dX10_state_105 (by decide) ?_
      exact rE_i hf hr hlk hw ⟨congrArg some (by simp only [f_X10_state, if_neg c_2, if_neg c_3, if_neg c_4, if_neg c_5, if_neg c_6, if_pos c_7, if_pos c_8]), rfl⟩ (show ([lh, t, tl, tf, ta, tk, tg, tp, tm, ak, k0, k1, k2, k3, k4, k5] : List Nat) = [lh, t, tl, tf, ta, tk, tg, tp, tm, ak, k0, k1, k2, k3, k4, k5] from rfl) dX10_state_106
    · refine lv_iconst (v := 1) hx hb dX10_state_101 (by decide) ?_
      refine lv_goto (tgt := 106) hx hb dX10_state_102 (by decide) ?_
      exact rE_i hf hr hlk hw ⟨congrArg some (by simp only [f_X10_state, if_neg c_2, if_neg c_3, if_neg c_4, if_neg c_5, if_neg c_6, if_pos c_7, if_neg c_8]), rfl⟩ (show ([lh, t, tl, tf, ta, tk, tg, tp, tm, ak, k0, k1, k2, k3, k4, k5] : List Nat) = [lh, t, tl, tf, ta, tk, tg, tp, tm, ak, k0, k1, k2, k3, k4, k5] from rfl) dX10_state_106
  refine lv_tableOut (tgt := 107) hx hb dX10_state_1 (sw_o2 0 5 [0, 1, 2, 3, 4, 5] (by decide) (by decide) (by simp only [List.mem_cons, List.not_mem_nil, or_false, not_or]; exact ⟨c_2, c_3, c_4, c_5, c_6, c_7⟩)) (by decide) ?_
  refine lv_iconst (v := (-1)) hx hb dX10_state_107 (by decide) ?_
  exact rE_i hf hr hlk hw ⟨congrArg some (by simp only [f_X10_state, if_neg c_2, if_neg c_3, if_neg c_4, if_neg c_5, if_neg c_6, if_neg c_7]), rfl⟩ (show ([lh, t, tl, tf, ta, tk, tg, tp, tm, ak, k0, k1, k2, k3, k4, k5] : List Nat) = [lh, t, tl, tf, ta, tk, tg, tp, tm, ak, k0, k1, k2, k3, k4, k5] from rfl) dX10_state_108
def f_X10_where (laws : Nat → Int32) (fogs : Nat → Int32) (arms : Nat → Int32) (kinds : Nat → Int32) (faiths : Nat → Int32) (places : Nat → Int32) (moved : Nat → Int32) (cnt : Nat) (stp : Nat) (goer : Int32) (n : Int32) : Int32 := if (f_X8_has cnt goer) = 0 then (-1) else (if (f_X10_isOutside n 0 60) = 0 then ((itG laws fogs arms (kinds (ix goer)) stp (faiths (ix goer)) (places (ix goer)) (moved (ix goer)) (ix n)).2.1) else (-1))
abbrev rmX10_where : Room := { frames := 6, cells := 0, slots := 0, locals := 140 }
set_option maxHeartbeats 4000000 in
set_option maxRecDepth 100000 in
theorem c_X10_where (l : Launch) (g : GG) (lh : Nat) (t : Nat) (tl : Nat) (tf : Nat) (ta : Nat) (tk : Nat) (tg : Nat) (tp : Nat) (tm : Nat) (laws : Nat → Int32) (fogs : Nat → Int32) (arms : Nat → Int32) (kinds : Nat → Int32) (faiths : Nat → Int32) (places : Nat → Int32) (moved : Nat → Int32) (cnt : Nat) (stp : Nat) (z : Int32) (xt : Nat) (xtl : Nat) (xtf : Nat) (xta : Nat) (xtk : Nat) (xtg : Nat) (xtp : Nat) (xtm : Nat) (xlaws : Nat → Int32) (xfogs : Nat → Int32) (xarms : Nat → Int32) (xkinds : Nat → Int32) (xfaiths : Nat → Int32) (xplaces : Nat → Int32) (xmoved : Nat → Int32) (xcnt : Nat) (xstp : Nat) (xz : Int32) (yt : Nat) (ak : Nat) (k0 : Nat) (k1 : Nat) (k2 : Nat) (k3 : Nat) (k4 : Nat) (k5 : Nat) (isk : Int32) (ltp : Nat) (lrw : Nat) (rc : Nat) (lac : Nat) (lsh : Nat) (lhh : Nat) (lhg : Nat) (lhr : Nat) (goer : Int32) (n : Int32) (hc8 : cnt ≤ 8) (hsp : stp < 2 ^ 29) (hkd : ∀ j, j < cnt → isK (kinds j)) : mtR l g yX10_where wsX10_where rmX10_where [.ref lh, .int goer, .int n] [cob lh 10 [.ref ak, .ref t, .ref yt, .ref xt, .int isk, .ref ltp, .ref lrw, .int (nI rc), .ref lac, .ref lsh, .ref lhh, .ref lhg, .ref lhr], cob t 8 [.ref ak, .ref tl, .ref tf, .ref ta, .ref tk, .ref tg, .ref tp, .ref tm, .int (nI cnt), .int (nI stp), .int z], cin g tl 4 laws, cin g tf 6 fogs, cin g ta 6 arms, cin g tk 8 kinds, cin g tg 8 faiths, cin g tp 8 places, cin g tm 8 moved, cob xt 8 [.ref ak, .ref xtl, .ref xtf, .ref xta, .ref xtk, .ref xtg, .ref xtp, .ref xtm, .int (nI xcnt), .int (nI xstp), .int xz], cin g xtl 4 xlaws, cin g xtf 6 xfogs, cin g xta 6 xarms, cin g xtk 8 xkinds, cin g xtg 8 xfaiths, cin g xtp 8 xplaces, cin g xtm 8 xmoved, ckd g ak 6 (kdf k0 k1 k2 k3 k4 k5), cob k0 4 [], cob k1 2 [], cob k2 5 [], cob k3 6 [], cob k4 9 [], cob k5 1 []] (fun rv W => rv = (some (.int (f_X10_where laws fogs arms kinds faiths places moved cnt stp goer n))) ∧ ∃ (j0 : Nat) (j1 : Nat) (j2 : Int32) (j3 : Nat → Int32) (j4 : Nat → Int32) (j5 : Nat → Int32) (j6 : Nat → Int32) (j7 : Nat → Int32) (j8 : Nat → Int32) (j9 : Nat → Int32), W = [cob lh 10 [.ref ak, .ref t, .ref yt, .ref xt, .int isk, .ref ltp, .ref lrw, .int (nI rc), .ref lac, .ref lsh, .ref lhh, .ref lhg, .ref lhr], cob t 8 [.ref ak, .ref tl, .ref tf, .ref ta, .ref tk, .ref tg, .ref tp, .ref tm, .int (nI cnt), .int (nI stp), .int z], cin g tl 4 laws, cin g tf 6 fogs, cin g ta 6 arms, cin g tk 8 kinds, cin g tg 8 faiths, cin g tp 8 places, cin g tm 8 moved, cob xt 8 [.ref ak, .ref xtl, .ref xtf, .ref xta, .ref xtk, .ref xtg, .ref xtp, .ref xtm, .int (nI j0), .int (nI j1), .int j2], cin g xtl 4 j3, cin g xtf 6 j4, cin g xta 6 j5, cin g xtk 8 j6, cin g xtg 8 j7, cin g xtp 8 j8, cin g xtm 8 j9, ckd g ak 6 (kdf k0 k1 k2 k3 k4 k5), cob k0 4 [], cob k1 2 [], cob k2 5 [], cob k3 6 [], cob k4 9 [], cob k5 1 []]) := by
  refine mtR.of (cc := cX10_where) (nL := 3) (ret := (some .int)) (own := RX10) (by decide +kernel) rfl rfl (Nat.le_of_ble_eq_true rfl) (fun p e s m below meth c hf hr hlk _ hk hst hw ls hl => ?_)
  have hx := hf.1
  have hb := hf.2.1
  have hts := hf.2.2.2.2
  have hl : lv_has ls 3 [(0, .ref lh), (1, .int goer), (2, .int n)] := hl
  have hinX10 : ∀ w ∈ u_ws RX10 TX10 13, w ∈ wsX10_where := fun w h => List.mem_cons_of_mem _ (List.mem_append_left _ (List.mem_append_right _ h))
  have w_0 : Cond.fieldLink RX10 36 "LightMan" "now" "LLightMan$Tunnel;" ∈ wsX10_where := List.mem_of_getElem? (i := 1) rfl
  have w_1 : Cond.fieldLink RX10 43 "LightMan" "tried" "LLightMan$Tunnel;" ∈ wsX10_where := List.mem_of_getElem? (i := 2) rfl
  have hinX8 : ∀ w ∈ u_ws RX8 TX8 11, w ∈ wsX10_where := fun w h => List.mem_cons_of_mem _ (List.mem_append_right _ h)
  have w_2 : Cond.fieldLink RX10 143 "LightMan$Tunnel" "places" "[I" ∈ wsX10_where := List.mem_of_getElem? (i := 3) rfl
  refine lv_aload_n hx hb dX10_where_0 rfl (lv_at hl 0 rfl) ?_
  refine rg hf hk hw hinX10 0 rfl rfl 1 (by decide) w_0 rfl dX10_where_1 ?_
  refine lv_iload_n hx hb dX10_where_4 rfl (lv_at hl 1 rfl) ?_
  refine mcV hf hk hst hw (c_X8_has l g t tl tf ta tk tg tp tm cnt stp z ak goer) (cwV 1 hts gX10_where_X8_has rfl rfl rfl hdV_X8_has ⟨Nat.le_of_ble_eq_true rfl, Nat.le_of_ble_eq_true rfl⟩) [1] rfl rfl 1 rfl rfl rfl hl.1 rfl (Nat.le_of_ble_eq_true rfl) dX10_where_5 ⟨Nat.zero_le _, Nat.zero_le _⟩ (W' := [cob lh 10 [.ref ak, .ref t, .ref yt, .ref xt, .int isk, .ref ltp, .ref lrw, .int (nI rc), .ref lac, .ref lsh, .ref lhh, .ref lhg, .ref lhr], cob t 8 [.ref ak, .ref tl, .ref tf, .ref ta, .ref tk, .ref tg, .ref tp, .ref tm, .int (nI cnt), .int (nI stp), .int z], cin g tl 4 laws, cin g tf 6 fogs, cin g ta 6 arms, cin g tk 8 kinds, cin g tg 8 faiths, cin g tp 8 places, cin g tm 8 moved, cob xt 8 [.ref ak, .ref xtl, .ref xtf, .ref xta, .ref xtk, .ref xtg, .ref xtp, .ref xtm, .int (nI xcnt), .int (nI xstp), .int xz], cin g xtl 4 xlaws, cin g xtf 6 xfogs, cin g xta 6 xarms, cin g xtk 8 xkinds, cin g xtg 8 xfaiths, cin g xtp 8 xplaces, cin g xtm 8 xmoved, ckd g ak 6 (kdf k0 k1 k2 k3 k4 k5), cob k0 4 [], cob k1 2 [], cob k2 5 [], cob k3 6 [], cob k4 9 [], cob k5 1 []]) rfl (fun H locs hw => ?_)
  refine lv_if_eq (tgt := 21) hx hb dX10_where_8 (by decide) (fun c_1 => ?_) (fun c_1 => ?_)
  · refine lv_iconst (v := (-1)) hx hb dX10_where_21 (by decide) ?_
    exact rE_i hf hr hlk hw ⟨congrArg some (by simp only [f_X10_where, if_pos c_1]), _, _, _, _, _, _, _, _, _, _, rfl⟩ (show ([lh, t, tl, tf, ta, tk, tg, tp, tm, xt, xtl, xtf, xta, xtk, xtg, xtp, xtm, ak, k0, k1, k2, k3, k4, k5] : List Nat) = [lh, t, tl, tf, ta, tk, tg, tp, tm, xt, xtl, xtf, xta, xtk, xtg, xtp, xtm, ak, k0, k1, k2, k3, k4, k5] from rfl) dX10_where_22
  · have hg := has_n hc8 c_1
    have hg2 := hg.2
    refine lv_iload_n hx hb dX10_where_11 rfl (lv_at hl 2 rfl) ?_
    refine lv_iconst (v := 0) hx hb dX10_where_12 (by decide) ?_
    refine lv_bipush (v := 60) hx hb dX10_where_13 (by decide) ?_
    refine mcS hf hk hst hw (c_X10_isOutside l g n 0 60) (va_cwS 3 hts gX10_where_X10_isOutside rfl rfl rfl hdS_X10_isOutside ⟨Nat.le_of_ble_eq_true rfl, Nat.le_of_ble_eq_true rfl⟩) [] rfl rfl rfl hl.1 rfl (Nat.le_of_ble_eq_true rfl) dX10_where_15 ⟨Nat.zero_le _, Nat.zero_le _⟩ (W' := [cob lh 10 [.ref ak, .ref t, .ref yt, .ref xt, .int isk, .ref ltp, .ref lrw, .int (nI rc), .ref lac, .ref lsh, .ref lhh, .ref lhg, .ref lhr], cob t 8 [.ref ak, .ref tl, .ref tf, .ref ta, .ref tk, .ref tg, .ref tp, .ref tm, .int (nI cnt), .int (nI stp), .int z], cin g tl 4 laws, cin g tf 6 fogs, cin g ta 6 arms, cin g tk 8 kinds, cin g tg 8 faiths, cin g tp 8 places, cin g tm 8 moved, cob xt 8 [.ref ak, .ref xtl, .ref xtf, .ref xta, .ref xtk, .ref xtg, .ref xtp, .ref xtm, .int (nI xcnt), .int (nI xstp), .int xz], cin g xtl 4 xlaws, cin g xtf 6 xfogs, cin g xta 6 xarms, cin g xtk 8 xkinds, cin g xtg 8 xfaiths, cin g xtp 8 xplaces, cin g xtm 8 xmoved, ckd g ak 6 (kdf k0 k1 k2 k3 k4 k5), cob k0 4 [], cob k1 2 [], cob k2 5 [], cob k3 6 [], cob k4 9 [], cob k5 1 []]) rfl (fun H locs hw => ?_)
    refine lv_if_eq (tgt := 23) hx hb dX10_where_18 (by decide) (fun c_2 => ?_) (fun c_2 => ?_)
    · have hn := out_n (N := 60) (by decide) c_2
      have hn2 := hn.2
      refine lv_aload_n hx hb dX10_where_23 rfl (lv_at hl 0 rfl) ?_
      refine rg hf hk hw hinX10 0 rfl rfl 3 (by decide) w_1 rfl dX10_where_24 ?_
      refine lv_aload_n hx hb dX10_where_27 rfl (lv_at hl 0 rfl) ?_
      refine rg hf hk hw hinX10 0 rfl rfl 1 (by decide) w_0 rfl dX10_where_28 ?_
      refine mcV hf hk hst hw (c_X8_copyFrom l g xt xtl xtf xta xtk xtg xtp xtm xlaws xfogs xarms xkinds xfaiths xplaces xmoved xcnt xstp xz t tl tf ta tk tg tp tm laws fogs arms kinds faiths places moved cnt stp z ak (by omega)) (cwV 1 hts gX10_where_X8_copyFrom rfl rfl rfl hdV_X8_copyFrom ⟨Nat.le_of_ble_eq_true rfl, Nat.le_of_ble_eq_true rfl⟩) [9, 10, 11, 12, 13, 14, 15, 16, 1, 2, 3, 4, 5, 6, 7, 8] rfl rfl 9 rfl rfl rfl hl.1 rfl (Nat.le_of_ble_eq_true rfl) dX10_where_31 ⟨Nat.zero_le _, Nat.zero_le _⟩ (W' := [cob lh 10 [.ref ak, .ref t, .ref yt, .ref xt, .int isk, .ref ltp, .ref lrw, .int (nI rc), .ref lac, .ref lsh, .ref lhh, .ref lhg, .ref lhr], cob t 8 [.ref ak, .ref tl, .ref tf, .ref ta, .ref tk, .ref tg, .ref tp, .ref tm, .int (nI cnt), .int (nI stp), .int z], cin g tl 4 laws, cin g tf 6 fogs, cin g ta 6 arms, cin g tk 8 kinds, cin g tg 8 faiths, cin g tp 8 places, cin g tm 8 moved, cob xt 8 [.ref ak, .ref xtl, .ref xtf, .ref xta, .ref xtk, .ref xtg, .ref xtp, .ref xtm, .int (nI cnt), .int (nI stp), .int z], cin g xtl 4 laws, cin g xtf 6 fogs, cin g xta 6 arms, cin g xtk 8 (cpT xkinds kinds cnt), cin g xtg 8 (cpT xfaiths faiths cnt), cin g xtp 8 (cpT xplaces places cnt), cin g xtm 8 (cpT xmoved moved cnt), ckd g ak 6 (kdf k0 k1 k2 k3 k4 k5), cob k0 4 [], cob k1 2 [], cob k2 5 [], cob k3 6 [], cob k4 9 [], cob k5 1 []]) rfl (fun H locs hw => ?_)
      obtain ⟨ck, eck⟩ : ∃ x : Nat → Int32, x = cpT xkinds kinds cnt := ⟨_, rfl⟩
      rw [← eck] at hw
      obtain ⟨cf, ecf⟩ : ∃ x : Nat → Int32, x = cpT xfaiths faiths cnt := ⟨_, rfl⟩
      rw [← ecf] at hw
      obtain ⟨cp, ecp⟩ : ∃ x : Nat → Int32, x = cpT xplaces places cnt := ⟨_, rfl⟩
      rw [← ecp] at hw
      obtain ⟨cm, ecm⟩ : ∃ x : Nat → Int32, x = cpT xmoved moved cnt := ⟨_, rfl⟩
      rw [← ecm] at hw
      have hck := cp_k eck
      have hcf := cp_k ecf
      have hcp := cp_k ecp
      have hcm := cp_k ecm
      refine lv_aload_n hx hb dX10_where_34 rfl (lv_at hl 0 rfl) ?_
      refine rg hf hk hw hinX10 0 rfl rfl 3 (by decide) w_1 rfl dX10_where_35 ?_
      refine lv_iload_n hx hb dX10_where_38 rfl (lv_at hl 1 rfl) ?_
      refine lv_tope (y := nI (ix goer)) hg.1 ?_
      refine lv_iload_n hx hb dX10_where_39 rfl (lv_at hl 2 rfl) ?_
      refine lv_tope (y := nI (ix n)) hn.1 ?_
      refine mcV hf hk hst hw (c_X8_goOnAlone l g xt xtl xtf xta xtk xtg xtp xtm laws fogs arms ck cf cp cm cnt stp z ak k0 k1 k2 k3 k4 k5 (ix goer) (ix n) (by omega) (by omega) (by omega) (by rw [hck _ hg2]; exact hkd _ hg2)) (cwV 2 hts gX10_where_X8_goOnAlone rfl rfl rfl hdV_X8_goOnAlone ⟨Nat.le_of_ble_eq_true rfl, Nat.le_of_ble_eq_true rfl⟩) [9, 10, 11, 12, 13, 14, 15, 16, 17, 18, 19, 20, 21, 22, 23] rfl rfl 9 rfl rfl rfl hl.1 rfl (Nat.le_of_ble_eq_true rfl) dX10_where_40 ⟨Nat.zero_le _, Nat.zero_le _⟩ (W' := [cob lh 10 [.ref ak, .ref t, .ref yt, .ref xt, .int isk, .ref ltp, .ref lrw, .int (nI rc), .ref lac, .ref lsh, .ref lhh, .ref lhg, .ref lhr], cob t 8 [.ref ak, .ref tl, .ref tf, .ref ta, .ref tk, .ref tg, .ref tp, .ref tm, .int (nI cnt), .int (nI stp), .int z], cin g tl 4 laws, cin g tf 6 fogs, cin g ta 6 arms, cin g tk 8 kinds, cin g tg 8 faiths, cin g tp 8 places, cin g tm 8 moved, cob xt 8 [.ref ak, .ref xtl, .ref xtf, .ref xta, .ref xtk, .ref xtg, .ref xtp, .ref xtm, .int (nI cnt), .int (nI stp), .int z], cin g xtl 4 laws, cin g xtf 6 fogs, cin g xta 6 arms, cin g xtk 8 ck, cin g xtg 8 (upd cf (ix goer) (itG laws fogs arms (ck (ix goer)) stp (cf (ix goer)) (cp (ix goer)) (cm (ix goer)) (ix n)).1), cin g xtp 8 (upd cp (ix goer) (itG laws fogs arms (ck (ix goer)) stp (cf (ix goer)) (cp (ix goer)) (cm (ix goer)) (ix n)).2.1), cin g xtm 8 (upd cm (ix goer) (itG laws fogs arms (ck (ix goer)) stp (cf (ix goer)) (cp (ix goer)) (cm (ix goer)) (ix n)).2.2), ckd g ak 6 (kdf k0 k1 k2 k3 k4 k5), cob k0 4 [], cob k1 2 [], cob k2 5 [], cob k3 6 [], cob k4 9 [], cob k5 1 []]) rfl (fun H locs hw => ?_)
      refine lv_pop hx hb dX10_where_43 rfl ?_
      refine lv_aload_n hx hb dX10_where_44 rfl (lv_at hl 0 rfl) ?_
      refine rg hf hk hw hinX10 0 rfl rfl 3 (by decide) w_1 rfl dX10_where_45 ?_
      refine rg hf hk hw hinX8 9 rfl rfl 6 (by decide) w_2 rfl dX10_where_48 ?_
      refine lv_iload_n hx hb dX10_where_51 rfl (lv_at hl 1 rfl) ?_
      refine lv_tope (y := nI (ix goer)) hg.1 ?_
      refine rij hf hk hw 15 rfl (j := ix goer) (vp_in_nI (by omega) (by omega)) (nI_clamp (by omega)) dX10_where_52 ?_
      refine lv_tope (y := (itG laws fogs arms (ck (ix goer)) stp (cf (ix goer)) (cp (ix goer)) (cm (ix goer)) (ix n)).2.1) pk_us ?_
      refine lv_tope (y := (itG laws fogs arms (kinds (ix goer)) stp (faiths (ix goer)) (places (ix goer)) (moved (ix goer)) (ix n)).2.1) (by rw [hck _ hg2, hcf _ hg2, hcp _ hg2, hcm _ hg2]) ?_
      exact rE_i hf hr hlk hw ⟨congrArg some (by simp only [f_X10_where, if_neg c_1, if_pos c_2]), _, _, _, _, _, _, _, _, _, _, rfl⟩ (show ([lh, t, tl, tf, ta, tk, tg, tp, tm, xt, xtl, xtf, xta, xtk, xtg, xtp, xtm, ak, k0, k1, k2, k3, k4, k5] : List Nat) = [lh, t, tl, tf, ta, tk, tg, tp, tm, xt, xtl, xtf, xta, xtk, xtg, xtp, xtm, ak, k0, k1, k2, k3, k4, k5] from rfl) dX10_where_53
    · refine lv_iconst (v := (-1)) hx hb dX10_where_21 (by decide) ?_
      exact rE_i hf hr hlk hw ⟨congrArg some (by simp only [f_X10_where, if_neg c_1, if_neg c_2]), _, _, _, _, _, _, _, _, _, _, rfl⟩ (show ([lh, t, tl, tf, ta, tk, tg, tp, tm, xt, xtl, xtf, xta, xtk, xtg, xtp, xtm, ak, k0, k1, k2, k3, k4, k5] : List Nat) = [lh, t, tl, tf, ta, tk, tg, tp, tm, xt, xtl, xtf, xta, xtk, xtg, xtp, xtm, ak, k0, k1, k2, k3, k4, k5] from rfl) dX10_where_22
theorem hdV_X8_passedBehind : yX8_passedBehind.cls = RX8 ∧ yX8_passedBehind.cls ≠ "java/lang/invoke/MethodHandle" ∧ yX8_passedBehind.cls ≠ "java/lang/invoke/VarHandle" ∧ (parseMethodDescriptor yX8_passedBehind.desc).map (fun d => d.parameters.length) = some 1 := by decide +kernel
def f_X10_passed (laws : Nat → Int32) (fogs : Nat → Int32) (arms : Nat → Int32) (kinds : Nat → Int32) (faiths : Nat → Int32) (places : Nat → Int32) (moved : Nat → Int32) (cnt : Nat) (stp : Nat) (n : Int32) : Int32 := if (f_X10_isOutside n 0 60) = 0 then (oneTo (thrN laws fogs arms stp (ix n) kinds faiths places moved) cnt) else (-1)
abbrev rmX10_passed : Room := { frames := 7, cells := 0, slots := 0, locals := 163 }
set_option maxHeartbeats 4000000 in
set_option maxRecDepth 100000 in
theorem c_X10_passed (l : Launch) (g : GG) (lh : Nat) (t : Nat) (tl : Nat) (tf : Nat) (ta : Nat) (tk : Nat) (tg : Nat) (tp : Nat) (tm : Nat) (laws : Nat → Int32) (fogs : Nat → Int32) (arms : Nat → Int32) (kinds : Nat → Int32) (faiths : Nat → Int32) (places : Nat → Int32) (moved : Nat → Int32) (cnt : Nat) (stp : Nat) (z : Int32) (xt : Nat) (xtl : Nat) (xtf : Nat) (xta : Nat) (xtk : Nat) (xtg : Nat) (xtp : Nat) (xtm : Nat) (xlaws : Nat → Int32) (xfogs : Nat → Int32) (xarms : Nat → Int32) (xkinds : Nat → Int32) (xfaiths : Nat → Int32) (xplaces : Nat → Int32) (xmoved : Nat → Int32) (xcnt : Nat) (xstp : Nat) (xz : Int32) (yt : Nat) (ak : Nat) (k0 : Nat) (k1 : Nat) (k2 : Nat) (k3 : Nat) (k4 : Nat) (k5 : Nat) (isk : Int32) (ltp : Nat) (lrw : Nat) (rc : Nat) (lac : Nat) (lsh : Nat) (lhh : Nat) (lhg : Nat) (lhr : Nat) (n : Int32) (hc8 : cnt ≤ 8) (hsp : stp < 2 ^ 29) (hkd : ∀ j, j < cnt → isK (kinds j)) : mtR l g yX10_passed wsX10_passed rmX10_passed [.ref lh, .int n] [cob lh 10 [.ref ak, .ref t, .ref yt, .ref xt, .int isk, .ref ltp, .ref lrw, .int (nI rc), .ref lac, .ref lsh, .ref lhh, .ref lhg, .ref lhr], cob t 8 [.ref ak, .ref tl, .ref tf, .ref ta, .ref tk, .ref tg, .ref tp, .ref tm, .int (nI cnt), .int (nI stp), .int z], cin g tl 4 laws, cin g tf 6 fogs, cin g ta 6 arms, cin g tk 8 kinds, cin g tg 8 faiths, cin g tp 8 places, cin g tm 8 moved, cob xt 8 [.ref ak, .ref xtl, .ref xtf, .ref xta, .ref xtk, .ref xtg, .ref xtp, .ref xtm, .int (nI xcnt), .int (nI xstp), .int xz], cin g xtl 4 xlaws, cin g xtf 6 xfogs, cin g xta 6 xarms, cin g xtk 8 xkinds, cin g xtg 8 xfaiths, cin g xtp 8 xplaces, cin g xtm 8 xmoved, ckd g ak 6 (kdf k0 k1 k2 k3 k4 k5), cob k0 4 [], cob k1 2 [], cob k2 5 [], cob k3 6 [], cob k4 9 [], cob k5 1 []] (fun rv W => rv = (some (.int (f_X10_passed laws fogs arms kinds faiths places moved cnt stp n))) ∧ ∃ (j0 : Nat) (j1 : Nat) (j2 : Int32) (j3 : Nat → Int32) (j4 : Nat → Int32) (j5 : Nat → Int32) (j6 : Nat → Int32) (j7 : Nat → Int32) (j8 : Nat → Int32) (j9 : Nat → Int32), W = [cob lh 10 [.ref ak, .ref t, .ref yt, .ref xt, .int isk, .ref ltp, .ref lrw, .int (nI rc), .ref lac, .ref lsh, .ref lhh, .ref lhg, .ref lhr], cob t 8 [.ref ak, .ref tl, .ref tf, .ref ta, .ref tk, .ref tg, .ref tp, .ref tm, .int (nI cnt), .int (nI stp), .int z], cin g tl 4 laws, cin g tf 6 fogs, cin g ta 6 arms, cin g tk 8 kinds, cin g tg 8 faiths, cin g tp 8 places, cin g tm 8 moved, cob xt 8 [.ref ak, .ref xtl, .ref xtf, .ref xta, .ref xtk, .ref xtg, .ref xtp, .ref xtm, .int (nI j0), .int (nI j1), .int j2], cin g xtl 4 j3, cin g xtf 6 j4, cin g xta 6 j5, cin g xtk 8 j6, cin g xtg 8 j7, cin g xtp 8 j8, cin g xtm 8 j9, ckd g ak 6 (kdf k0 k1 k2 k3 k4 k5), cob k0 4 [], cob k1 2 [], cob k2 5 [], cob k3 6 [], cob k4 9 [], cob k5 1 []]) := by
  refine mtR.of (cc := cX10_passed) (nL := 2) (ret := (some .int)) (own := RX10) (by decide +kernel) rfl rfl (Nat.le_of_ble_eq_true rfl) (fun p e s m below meth c hf hr hlk _ hk hst hw ls hl => ?_)
  have hx := hf.1
  have hb := hf.2.1
  have hts := hf.2.2.2.2
  have hl : lv_has ls 2 [(0, .ref lh), (1, .int n)] := hl
  have hinX10 : ∀ w ∈ u_ws RX10 TX10 13, w ∈ wsX10_passed := fun w h => List.mem_cons_of_mem _ (List.mem_append_left _ (List.mem_append_right _ h))
  have w_0 : Cond.fieldLink RX10 43 "LightMan" "tried" "LLightMan$Tunnel;" ∈ wsX10_passed := List.mem_of_getElem? (i := 1) rfl
  have w_1 : Cond.fieldLink RX10 36 "LightMan" "now" "LLightMan$Tunnel;" ∈ wsX10_passed := List.mem_of_getElem? (i := 2) rfl
  refine lv_iload_n hx hb dX10_passed_0 rfl (lv_at hl 1 rfl) ?_
  refine lv_iconst (v := 0) hx hb dX10_passed_1 (by decide) ?_
  refine lv_bipush (v := 60) hx hb dX10_passed_2 (by decide) ?_
  refine mcS hf hk hst hw (c_X10_isOutside l g n 0 60) (va_cwS 3 hts gX10_passed_X10_isOutside rfl rfl rfl hdS_X10_isOutside ⟨Nat.le_of_ble_eq_true rfl, Nat.le_of_ble_eq_true rfl⟩) [] rfl rfl rfl hl.1 rfl (Nat.le_of_ble_eq_true rfl) dX10_passed_4 ⟨Nat.zero_le _, Nat.zero_le _⟩ (W' := [cob lh 10 [.ref ak, .ref t, .ref yt, .ref xt, .int isk, .ref ltp, .ref lrw, .int (nI rc), .ref lac, .ref lsh, .ref lhh, .ref lhg, .ref lhr], cob t 8 [.ref ak, .ref tl, .ref tf, .ref ta, .ref tk, .ref tg, .ref tp, .ref tm, .int (nI cnt), .int (nI stp), .int z], cin g tl 4 laws, cin g tf 6 fogs, cin g ta 6 arms, cin g tk 8 kinds, cin g tg 8 faiths, cin g tp 8 places, cin g tm 8 moved, cob xt 8 [.ref ak, .ref xtl, .ref xtf, .ref xta, .ref xtk, .ref xtg, .ref xtp, .ref xtm, .int (nI xcnt), .int (nI xstp), .int xz], cin g xtl 4 xlaws, cin g xtf 6 xfogs, cin g xta 6 xarms, cin g xtk 8 xkinds, cin g xtg 8 xfaiths, cin g xtp 8 xplaces, cin g xtm 8 xmoved, ckd g ak 6 (kdf k0 k1 k2 k3 k4 k5), cob k0 4 [], cob k1 2 [], cob k2 5 [], cob k3 6 [], cob k4 9 [], cob k5 1 []]) rfl (fun H locs hw => ?_)
  refine lv_if_eq (tgt := 12) hx hb dX10_passed_7 (by decide) (fun c_1 => ?_) (fun c_1 => ?_)
  · have hn := out_n (N := 60) (by decide) c_1
    have hn2 := hn.2
    refine lv_aload_n hx hb dX10_passed_12 rfl (lv_at hl 0 rfl) ?_
    refine rg hf hk hw hinX10 0 rfl rfl 3 (by decide) w_0 rfl dX10_passed_13 ?_
    refine lv_aload_n hx hb dX10_passed_16 rfl (lv_at hl 0 rfl) ?_
    refine rg hf hk hw hinX10 0 rfl rfl 1 (by decide) w_1 rfl dX10_passed_17 ?_
    refine mcV hf hk hst hw (c_X8_copyFrom l g xt xtl xtf xta xtk xtg xtp xtm xlaws xfogs xarms xkinds xfaiths xplaces xmoved xcnt xstp xz t tl tf ta tk tg tp tm laws fogs arms kinds faiths places moved cnt stp z ak (by omega)) (cwV 1 hts gX10_passed_X8_copyFrom rfl rfl rfl hdV_X8_copyFrom ⟨Nat.le_of_ble_eq_true rfl, Nat.le_of_ble_eq_true rfl⟩) [9, 10, 11, 12, 13, 14, 15, 16, 1, 2, 3, 4, 5, 6, 7, 8] rfl rfl 9 rfl rfl rfl hl.1 rfl (Nat.le_of_ble_eq_true rfl) dX10_passed_20 ⟨Nat.zero_le _, Nat.zero_le _⟩ (W' := [cob lh 10 [.ref ak, .ref t, .ref yt, .ref xt, .int isk, .ref ltp, .ref lrw, .int (nI rc), .ref lac, .ref lsh, .ref lhh, .ref lhg, .ref lhr], cob t 8 [.ref ak, .ref tl, .ref tf, .ref ta, .ref tk, .ref tg, .ref tp, .ref tm, .int (nI cnt), .int (nI stp), .int z], cin g tl 4 laws, cin g tf 6 fogs, cin g ta 6 arms, cin g tk 8 kinds, cin g tg 8 faiths, cin g tp 8 places, cin g tm 8 moved, cob xt 8 [.ref ak, .ref xtl, .ref xtf, .ref xta, .ref xtk, .ref xtg, .ref xtp, .ref xtm, .int (nI cnt), .int (nI stp), .int z], cin g xtl 4 laws, cin g xtf 6 fogs, cin g xta 6 arms, cin g xtk 8 (cpT xkinds kinds cnt), cin g xtg 8 (cpT xfaiths faiths cnt), cin g xtp 8 (cpT xplaces places cnt), cin g xtm 8 (cpT xmoved moved cnt), ckd g ak 6 (kdf k0 k1 k2 k3 k4 k5), cob k0 4 [], cob k1 2 [], cob k2 5 [], cob k3 6 [], cob k4 9 [], cob k5 1 []]) rfl (fun H locs hw => ?_)
    obtain ⟨ck, eck⟩ : ∃ x : Nat → Int32, x = cpT xkinds kinds cnt := ⟨_, rfl⟩
    rw [← eck] at hw
    obtain ⟨cf, ecf⟩ : ∃ x : Nat → Int32, x = cpT xfaiths faiths cnt := ⟨_, rfl⟩
    rw [← ecf] at hw
    obtain ⟨cp, ecp⟩ : ∃ x : Nat → Int32, x = cpT xplaces places cnt := ⟨_, rfl⟩
    rw [← ecp] at hw
    obtain ⟨cm, ecm⟩ : ∃ x : Nat → Int32, x = cpT xmoved moved cnt := ⟨_, rfl⟩
    rw [← ecm] at hw
    have hck := cp_k eck
    have hcf := cp_k ecf
    have hcp := cp_k ecp
    have hcm := cp_k ecm
    refine lv_aload_n hx hb dX10_passed_23 rfl (lv_at hl 0 rfl) ?_
    refine rg hf hk hw hinX10 0 rfl rfl 3 (by decide) w_0 rfl dX10_passed_24 ?_
    refine lv_iload_n hx hb dX10_passed_27 rfl (lv_at hl 1 rfl) ?_
    refine lv_tope (y := nI (ix n)) hn.1 ?_
    refine mcV hf hk hst hw (c_X8_passedBehind l g xt xtl xtf xta xtk xtg xtp xtm laws fogs arms ck cf cp cm cnt stp z ak k0 k1 k2 k3 k4 k5 (ix n) (by omega) (by omega) (fun j hj => by rw [hck j hj]; exact hkd j hj) (by omega)) (cwV 1 hts gX10_passed_X8_passedBehind rfl rfl rfl hdV_X8_passedBehind ⟨Nat.le_of_ble_eq_true rfl, Nat.le_of_ble_eq_true rfl⟩) [9, 10, 11, 12, 13, 14, 15, 16, 17, 18, 19, 20, 21, 22, 23] rfl rfl 9 rfl rfl rfl hl.1 rfl (Nat.le_of_ble_eq_true rfl) dX10_passed_28 ⟨Nat.zero_le _, Nat.zero_le _⟩ (W' := [cob lh 10 [.ref ak, .ref t, .ref yt, .ref xt, .int isk, .ref ltp, .ref lrw, .int (nI rc), .ref lac, .ref lsh, .ref lhh, .ref lhg, .ref lhr], cob t 8 [.ref ak, .ref tl, .ref tf, .ref ta, .ref tk, .ref tg, .ref tp, .ref tm, .int (nI cnt), .int (nI stp), .int z], cin g tl 4 laws, cin g tf 6 fogs, cin g ta 6 arms, cin g tk 8 kinds, cin g tg 8 faiths, cin g tp 8 places, cin g tm 8 moved, cob xt 8 [.ref ak, .ref xtl, .ref xtf, .ref xta, .ref xtk, .ref xtg, .ref xtp, .ref xtm, .int (nI cnt), .int (nI stp), .int z], cin g xtl 4 laws, cin g xtf 6 fogs, cin g xta 6 arms, cin g xtk 8 ck, cin g xtg 8 (gaF laws fogs arms stp (ix n) ck cf cp cm cnt), cin g xtp 8 (gaP laws fogs arms stp (ix n) ck cf cp cm cnt), cin g xtm 8 (gaM laws fogs arms stp (ix n) ck cf cp cm cnt), ckd g ak 6 (kdf k0 k1 k2 k3 k4 k5), cob k0 4 [], cob k1 2 [], cob k2 5 [], cob k3 6 [], cob k4 9 [], cob k5 1 []]) rfl (fun H locs hw => ?_)
    refine lv_tope (y := oneTo (thrN laws fogs arms stp (ix n) kinds faiths places moved) cnt) (thrN_c hck hcf hcp hcm) ?_
    exact rE_i hf hr hlk hw ⟨congrArg some (by simp only [f_X10_passed, if_pos c_1]), _, _, _, _, _, _, _, _, _, _, rfl⟩ (show ([lh, t, tl, tf, ta, tk, tg, tp, tm, xt, xtl, xtf, xta, xtk, xtg, xtp, xtm, ak, k0, k1, k2, k3, k4, k5] : List Nat) = [lh, t, tl, tf, ta, tk, tg, tp, tm, xt, xtl, xtf, xta, xtk, xtg, xtp, xtm, ak, k0, k1, k2, k3, k4, k5] from rfl) dX10_passed_31
  · refine lv_iconst (v := (-1)) hx hb dX10_passed_10 (by decide) ?_
    exact rE_i hf hr hlk hw ⟨congrArg some (by simp only [f_X10_passed, if_neg c_1]), _, _, _, _, _, _, _, _, _, _, rfl⟩ (show ([lh, t, tl, tf, ta, tk, tg, tp, tm, xt, xtl, xtf, xta, xtk, xtg, xtp, xtm, ak, k0, k1, k2, k3, k4, k5] : List Nat) = [lh, t, tl, tf, ta, tk, tg, tp, tm, xt, xtl, xtf, xta, xtk, xtg, xtp, xtm, ak, k0, k1, k2, k3, k4, k5] from rfl) dX10_passed_11
