/-! sums, sets, copies, one alone -/
def sumTo (f : Nat → Int32) : Nat → Int32
  | 0 => 0
  | n + 1 => sumTo f n + f n
def setTo (q : Nat → Int32) : Nat → Int32
  | 0 => 0
  | n + 1 => if q n = 0 then setTo q n else setTo q n ||| (1 <<< (nI n &&& 31))
def posTo (f : Nat → Int32) : Nat → Int32
  | 0 => 0
  | n + 1 => if f n ≤ 0 then posTo f n else posTo f n + 1
/-- how many of the first n are not 0 -/
def oneTo (q : Nat → Int32) : Nat → Int32
  | 0 => 0
  | n + 1 => if q n = 0 then oneTo q n else oneTo q n + 1
def thrs (places : Nat → Int32) : Nat → Int32 := fun j => thrF (places j)
def snow (kd fog ar hum pl : Int32) : Int32 := if thrF pl = 0 then seesF kd fog ar hum pl else 0
def snows (laws fogs arms : Nat → Int32) (st : Nat) (kinds places : Nat → Int32) : Nat → Int32 := fun j => snow (kinds j) (fogs (st % 6)) (arms (st % 6)) (laws 0) (places j)
theorem snow_01 (a b c d e : Int32) : snow a b c d e = 0 ∨ snow a b c d e = 1 := by unfold snow; split; exact sees_01 a b c d e; exact Or.inl rfl
def cpT (a b : Nat → Int32) (n : Nat) : Nat → Int32 := fun j => if j < n then b j else a j
theorem cpT_0 (a b : Nat → Int32) : a = cpT a b 0 := by funext j; simp [cpT]
theorem cpT_s {a b f : Nat → Int32} {k : Nat} (h : f = cpT a b k) : upd f k (b k) = cpT a b (k + 1) := by
  subst h
  funext j
  by_cases hj : j = k
  · subst hj; rw [pk_us]; simp [cpT]
  · rw [pk_un hj]
    unfold cpT
    by_cases hlt : j < k
    · simp [hlt, Nat.lt_succ_of_lt hlt]
    · have : ¬ j < k + 1 := by omega
      simp [hlt, this]
theorem cpT_all {a b : Nat → Int32} {n : Nat} : ∀ j, j < n → cpT a b n j = b j := fun j h => by simp [cpT, h]
def fill (a : Nat → Int32) (v : Int32) (n : Nat) : Nat → Int32 := fun j => if j < n then v else a j
theorem fill_0 (a : Nat → Int32) (v : Int32) : a = fill a v 0 := by funext j; simp [fill]
theorem fill_s {a f : Nat → Int32} {v : Int32} {k : Nat} (h : f = fill a v k) : upd f k v = fill a v (k + 1) := by
  subst h
  funext j
  by_cases hj : j = k
  · subst hj; rw [pk_us]; simp [fill]
  · rw [pk_un hj]
    unfold fill
    by_cases hlt : j < k
    · simp [hlt, Nat.lt_succ_of_lt hlt]
    · have : ¬ j < k + 1 := by omega
      simp [hlt, this]
/-- an int array may be said by any numbers that agree within its length -/
theorem hv_ext {g : GG} {A : Nat → Prop} {s : State} {H : Heap} {locs : List Loc} {W0 W' : va_W} (hw : hv g A s H locs W0) (q0 : Nat) {a n : Nat} {f f' : Nat → Int32} {cA : ClassId} (ha : W0[q0]? = some (a, .inl (cA, n, .inl f))) (h : ∀ j, j < n → f j = f' j) (hW' : W0.set q0 (a, .inl (cA, n, .inl f')) = W') : hv g A s H locs W' := by
  subst hW'
  have e : vp_cell cA (n, .inl f) = vp_cell cA (n, .inl f') := by
    show arrV cA n (fun j => .int (f j)) = arrV cA n (fun j => .int (f' j))
    unfold arrV
    congr 1
    apply Array.ext
    · simp
    · intro j h1 h2
      simp at h1
      simp [h j h1]
  refine ⟨hw.1.set hw.2.1 ha ?_ (fun q _ => rfl), hw.2.1.set ha, hw.2.2⟩
  show H[a]? = some (vp_cell cA (n, .inl f'))
  rw [← e]
  exact hw.1 q0 _ ha
/-- one alone, behind k steps: faith, place, moved -/
def itG (laws fogs arms : Nat → Int32) (kd : Int32) (st : Nat) (fa pl mo : Int32) : Nat → Int32 × Int32 × Int32
  | 0 => (fa, pl, mo)
  | k + 1 => (n1F kd (fogs ((st + k) % 6)) (arms ((st + k) % 6)) (laws 0) (itG laws fogs arms kd st fa pl mo k).1 (itG laws fogs arms kd st fa pl mo k).2.1, n1P kd (fogs ((st + k) % 6)) (arms ((st + k) % 6)) (laws 0) (nI (st + k)) (laws 1) (laws 2) (itG laws fogs arms kd st fa pl mo k).1 (itG laws fogs arms kd st fa pl mo k).2.1, n1M kd (fogs ((st + k) % 6)) (arms ((st + k) % 6)) (laws 0) (itG laws fogs arms kd st fa pl mo k).2.1 (itG laws fogs arms kd st fa pl mo k).2.2)
theorem upd_self (f : Nat → Int32) (k : Nat) : f = upd f k (f k) := (upd_id f k).symm
theorem aG_upd (th : Int32) (f : Nat → Int32) (k : Nat) (x v : Int32) : aG th (upd f k x) k v = upd f k (if th = 0 then v else x) := by
  unfold aG
  by_cases h : th = 0
  · rw [if_pos h, if_pos h]
    funext j
    by_cases hj : j = k
    · subst hj; rw [pk_us, pk_us]
    · rw [pk_un hj, pk_un hj, pk_un hj]
  · rw [if_neg h, if_neg h]
theorem itG_s {laws fogs arms : Nat → Int32} {kd : Int32} {st k q : Nat} {faiths places moved fa pl mo : Nat → Int32}
    (ef : fa = upd faiths q (itG laws fogs arms kd st (faiths q) (places q) (moved q) k).1) (ep : pl = upd places q (itG laws fogs arms kd st (faiths q) (places q) (moved q) k).2.1) (em : mo = upd moved q (itG laws fogs arms kd st (faiths q) (places q) (moved q) k).2.2) :
    aG (thrF (pl q)) fa q (vF kd (fogs ((st + k) % 6)) (arms ((st + k) % 6)) (laws 0) (fa q) (pl q)) = upd faiths q (itG laws fogs arms kd st (faiths q) (places q) (moved q) (k + 1)).1 ∧
    aG (thrF (pl q)) pl q (vP kd (nI (st + k)) (seesF kd (fogs ((st + k) % 6)) (arms ((st + k) % 6)) (laws 0) (pl q)) (laws 1) (laws 2) (vF kd (fogs ((st + k) % 6)) (arms ((st + k) % 6)) (laws 0) (fa q) (pl q)) (pl q)) = upd places q (itG laws fogs arms kd st (faiths q) (places q) (moved q) (k + 1)).2.1 ∧
    aG (thrF (pl q)) mo q (vM kd (fogs ((st + k) % 6)) (arms ((st + k) % 6)) (laws 0) (pl q) (mo q)) = upd moved q (itG laws fogs arms kd st (faiths q) (places q) (moved q) (k + 1)).2.2 := by
  have h1 : fa q = (itG laws fogs arms kd st (faiths q) (places q) (moved q) k).1 := by rw [ef, pk_us]
  have h2 : pl q = (itG laws fogs arms kd st (faiths q) (places q) (moved q) k).2.1 := by rw [ep, pk_us]
  have h3 : mo q = (itG laws fogs arms kd st (faiths q) (places q) (moved q) k).2.2 := by rw [em, pk_us]
  rw [h1, h2, h3]
  refine ⟨?_, ?_, ?_⟩
  · rw [ef, aG_upd]; rfl
  · rw [ep, aG_upd]; rfl
  · rw [em, aG_upd]; rfl
theorem itG_thr {laws fogs arms : Nat → Int32} {kd : Int32} {st : Nat} {fa pl mo : Int32} {k : Nat} (h : ¬ thrF (itG laws fogs arms kd st fa pl mo k).2.1 = 0) : ∀ n, itG laws fogs arms kd st fa pl mo (k + n) = itG laws fogs arms kd st fa pl mo k := by
  intro n
  induction n with
  | zero => rfl
  | succ n ih =>
    show itG laws fogs arms kd st fa pl mo (k + n + 1) = _
    simp only [itG, ih, n1F, n1P, n1M, if_neg h]
theorem itG_end {laws fogs arms : Nat → Int32} {kd : Int32} {st : Nat} {fa pl mo : Int32} {k n : Nat} (hkn : k ≤ n) (h : ¬ thrF (itG laws fogs arms kd st fa pl mo k).2.1 = 0) : itG laws fogs arms kd st fa pl mo k = itG laws fogs arms kd st fa pl mo n := by
  have := itG_thr h (n - k)
  rw [show k + (n - k) = n by omega] at this
  exact this.symm
/-- all of the first j alone, behind n steps -/
def gaF (laws fogs arms : Nat → Int32) (st n : Nat) (kinds faiths places moved : Nat → Int32) (j : Nat) : Nat → Int32 := fun i => if i < j then (itG laws fogs arms (kinds i) st (faiths i) (places i) (moved i) n).1 else faiths i
def gaP (laws fogs arms : Nat → Int32) (st n : Nat) (kinds faiths places moved : Nat → Int32) (j : Nat) : Nat → Int32 := fun i => if i < j then (itG laws fogs arms (kinds i) st (faiths i) (places i) (moved i) n).2.1 else places i
def gaM (laws fogs arms : Nat → Int32) (st n : Nat) (kinds faiths places moved : Nat → Int32) (j : Nat) : Nat → Int32 := fun i => if i < j then (itG laws fogs arms (kinds i) st (faiths i) (places i) (moved i) n).2.2 else moved i
/-- who is through behind n steps -/
def thrN (laws fogs arms : Nat → Int32) (st n : Nat) (kinds faiths places moved : Nat → Int32) : Nat → Int32 := fun i => thrF (itG laws fogs arms (kinds i) st (faiths i) (places i) (moved i) n).2.1
theorem ga_0 (f n : Nat → Int32) : f = fun i => if i < 0 then n i else f i := by funext i; simp
theorem ga_s {f f0 n : Nat → Int32} {k : Nat} (h : f = fun i => if i < k then n i else f0 i) : upd f k (n k) = fun i => if i < k + 1 then n i else f0 i := by
  subst h
  funext i
  by_cases hi : i = k
  · subst hi; rw [pk_us]; simp
  · rw [pk_un hi]
    by_cases hlt : i < k
    · simp [hlt, Nat.lt_succ_of_lt hlt]
    · have : ¬ i < k + 1 := by omega
      simp [hlt, this]
theorem ga_k {f f0 n : Nat → Int32} {k : Nat} (h : f = fun i => if i < k then n i else f0 i) : f k = f0 k := by rw [h]; simp
/-- goesBy: told against the places behind 1, 2, .. steps; what it answers, and how many steps it makes -/
def gbR (told pls : Nat → Int32) : Nat → Nat → Int32
  | 0, _ => 1
  | m + 1, k => if told k = -1 then gbR told pls m (k + 1) else if told k = pls (k + 1) then gbR told pls m (k + 1) else 0
def gbS (told pls : Nat → Int32) : Nat → Nat → Nat
  | 0, k => k
  | m + 1, k => if told k = -1 then gbS told pls m (k + 1) else if told k = pls (k + 1) then gbS told pls m (k + 1) else k + 1
def itP (laws fogs arms : Nat → Int32) (kd : Int32) (st : Nat) (fa pl mo : Int32) : Nat → Int32 := fun k => (itG laws fogs arms kd st fa pl mo k).2.1
/-- draws -/
def drZ (z : Int32) : Int32 := z * 1103515245 + 12345
def drV (z : Int32) : Int32 := ((drZ z).toUInt32 >>> ((16 : Int32).toUInt32 &&& Int32.toUInt32 31)).toInt32
def drN (z : Int32) : Nat := (drZ z).toBitVec.toNat / 2 ^ 16
theorem drN_lt (z : Int32) : drN z < 65536 := by
  unfold drN
  have := (drZ z).toBitVec.isLt
  omega
theorem drV_n (z : Int32) : drV z = nI (drN z) := by
  apply Int32.toBitVec_inj.1
  apply BitVec.eq_of_toNat_eq
  have h := drN_lt z
  rw [pk_tn (by omega)]
  exact pk_ushr (drZ z) 16 16 (by decide)
theorem drM (z : Int32) {c : Nat} (h0 : 0 < c) (h1 : c < 2 ^ 31) : drV z - drV z / nI c * nI c = nI (drN z % c) := by
  rw [drV_n]
  have h := drN_lt z
  exact pk_rem (by omega) h0 h1
def drF (laws faiths : Nat → Int32) (z : Int32) (cnt : Nat) : Nat → Int32 := if nI cnt ≤ 0 then faiths else if laws 3 ≤ nI (drN (drZ z) % 100) then faiths else upd faiths (drN z % cnt) (99 - faiths (drN z % cnt))
def drZ2 (z : Int32) (cnt : Nat) : Int32 := if nI cnt ≤ 0 then z else drZ (drZ z)

abbrev rmX8_seesNow : Room := { frames := 4, cells := 0, slots := 0, locals := 92 }
set_option maxHeartbeats 4000000 in
set_option maxRecDepth 100000 in
theorem c_X8_seesNow (l : Launch) (g : GG) (t : Nat) (tl : Nat) (tf : Nat) (ta : Nat) (tk : Nat) (tg : Nat) (tp : Nat) (tm : Nat) (laws : Nat → Int32) (fogs : Nat → Int32) (arms : Nat → Int32) (kinds : Nat → Int32) (faiths : Nat → Int32) (places : Nat → Int32) (moved : Nat → Int32) (cnt : Nat) (stp : Nat) (z : Int32) (ak : Nat) (k0 : Nat) (k1 : Nat) (k2 : Nat) (k3 : Nat) (k4 : Nat) (k5 : Nat) (k : Nat) (hk8 : k < 8) (hsp : stp < 2 ^ 30) (hkd : isK (kinds k)) : mt l g yX8_seesNow wsX8_seesNow rmX8_seesNow [.ref t, .int (nI k)] [cob t 8 [.ref ak, .ref tl, .ref tf, .ref ta, .ref tk, .ref tg, .ref tp, .ref tm, .int (nI cnt), .int (nI stp), .int z], cin g tl 4 laws, cin g tf 6 fogs, cin g ta 6 arms, cin g tk 8 kinds, cin g tg 8 faiths, cin g tp 8 places, cin g tm 8 moved, ckd g ak 6 (kdf k0 k1 k2 k3 k4 k5), cob k0 4 [], cob k1 2 [], cob k2 5 [], cob k3 6 [], cob k4 9 [], cob k5 1 []] (some (.int (snow (kinds k) (fogs (stp % 6)) (arms (stp % 6)) (laws 0) (places k)))) [cob t 8 [.ref ak, .ref tl, .ref tf, .ref ta, .ref tk, .ref tg, .ref tp, .ref tm, .int (nI cnt), .int (nI stp), .int z], cin g tl 4 laws, cin g tf 6 fogs, cin g ta 6 arms, cin g tk 8 kinds, cin g tg 8 faiths, cin g tp 8 places, cin g tm 8 moved, ckd g ak 6 (kdf k0 k1 k2 k3 k4 k5), cob k0 4 [], cob k1 2 [], cob k2 5 [], cob k3 6 [], cob k4 9 [], cob k5 1 []] := by
  refine mt.of (cc := cX8_seesNow) (nL := 2) (ret := (some .boolean)) (own := RX8) (by decide +kernel) rfl rfl rfl (Nat.le_of_ble_eq_true rfl) (fun p e s m below meth c hf hr hlk _ hk hst hw ls hl => ?_)
  have hx := hf.1
  have hb := hf.2.1
  have hts := hf.2.2.2.2
  have hl : lv_has ls 2 [(0, .ref t), (1, .int (nI k))] := hl
  have hinX8 : ∀ w ∈ u_ws RX8 TX8 11, w ∈ wsX8_seesNow := fun w h => List.mem_cons_of_mem _ (List.mem_append_right _ h)
  have w_0 : Cond.fieldLink RX8 50 "LightMan$Tunnel" "stepNumber" "I" ∈ wsX8_seesNow := List.mem_of_getElem? (i := 1) rfl
  refine lv_aload_n hx hb dX8_seesNow_0 rfl (lv_at hl 0 rfl) ?_
  refine lv_iload_n hx hb dX8_seesNow_1 rfl (lv_at hl 1 rfl) ?_
  refine mcV hf hk hst hw (c_X8_isThrough l g t tl tf ta tk tg tp tm places cnt stp z ak k (by omega)) (cwV 1 hts gX8_seesNow_X8_isThrough rfl rfl rfl hdV_X8_isThrough ⟨Nat.le_of_ble_eq_true rfl, Nat.le_of_ble_eq_true rfl⟩) [0, 6] rfl rfl 0 rfl rfl rfl hl.1 rfl (Nat.le_of_ble_eq_true rfl) dX8_seesNow_2 ⟨Nat.zero_le _, Nat.zero_le _⟩ (W' := [cob t 8 [.ref ak, .ref tl, .ref tf, .ref ta, .ref tk, .ref tg, .ref tp, .ref tm, .int (nI cnt), .int (nI stp), .int z], cin g tl 4 laws, cin g tf 6 fogs, cin g ta 6 arms, cin g tk 8 kinds, cin g tg 8 faiths, cin g tp 8 places, cin g tm 8 moved, ckd g ak 6 (kdf k0 k1 k2 k3 k4 k5), cob k0 4 [], cob k1 2 [], cob k2 5 [], cob k3 6 [], cob k4 9 [], cob k5 1 []]) rfl (fun H locs hw => ?_)
  refine lv_if_ne (tgt := 24) hx hb dX8_seesNow_5 (by decide) (fun c_1 => ?_) (fun c_1 => ?_)
  · refine lv_iconst (v := 0) hx hb dX8_seesNow_24 (by decide) ?_
    exact re_z hf hr hlk hw (rfl) (by simp only [snow, if_neg c_1]) (rfl) dX8_seesNow_25
  · refine lv_aload_n hx hb dX8_seesNow_8 rfl (lv_at hl 0 rfl) ?_
    refine lv_iload_n hx hb dX8_seesNow_9 rfl (lv_at hl 1 rfl) ?_
    refine lv_aload_n hx hb dX8_seesNow_10 rfl (lv_at hl 0 rfl) ?_
    refine rg hf hk hw hinX8 0 rfl rfl 9 (by decide) w_0 rfl dX8_seesNow_11 ?_
    refine mcV hf hk hst hw (c_X8_sees l g t tl tf ta tk tg tp tm laws fogs arms kinds faiths places moved cnt stp z ak k0 k1 k2 k3 k4 k5 k stp (by omega) (by omega) (by assumption)) (cwV 2 hts gX8_seesNow_X8_sees rfl rfl rfl hdV_X8_sees ⟨Nat.le_of_ble_eq_true rfl, Nat.le_of_ble_eq_true rfl⟩) [0, 1, 2, 3, 4, 5, 6, 7, 8, 9, 10, 11, 12, 13, 14] rfl rfl 0 rfl rfl rfl hl.1 rfl (Nat.le_of_ble_eq_true rfl) dX8_seesNow_14 ⟨Nat.zero_le _, Nat.zero_le _⟩ (W' := [cob t 8 [.ref ak, .ref tl, .ref tf, .ref ta, .ref tk, .ref tg, .ref tp, .ref tm, .int (nI cnt), .int (nI stp), .int z], cin g tl 4 laws, cin g tf 6 fogs, cin g ta 6 arms, cin g tk 8 kinds, cin g tg 8 faiths, cin g tp 8 places, cin g tm 8 moved, ckd g ak 6 (kdf k0 k1 k2 k3 k4 k5), cob k0 4 [], cob k1 2 [], cob k2 5 [], cob k3 6 [], cob k4 9 [], cob k5 1 []]) rfl (fun H locs hw => ?_)
    refine lv_if_eq (tgt := 24) hx hb dX8_seesNow_17 (by decide) (fun c_2 => ?_) (fun c_2 => ?_)
    · refine lv_iconst (v := 0) hx hb dX8_seesNow_24 (by decide) ?_
      exact re_z hf hr hlk hw (rfl) (by simp only [snow, if_pos c_1]; rw [c_2]) (rfl) dX8_seesNow_25
    · refine lv_iconst (v := 1) hx hb dX8_seesNow_20 (by decide) ?_
      refine lv_goto (tgt := 25) hx hb dX8_seesNow_21 (by decide) ?_
      exact re_z hf hr hlk hw (rfl) (by simp only [snow, if_pos c_1]; rw [(sees_01 _ _ _ _ _).resolve_left c_2]) (rfl) dX8_seesNow_25
abbrev rmX8_throughSet : Room := { frames := 1, cells := 0, slots := 0, locals := 21 }
set_option maxHeartbeats 4000000 in
set_option maxRecDepth 100000 in
theorem c_X8_throughSet (l : Launch) (g : GG) (t : Nat) (tl : Nat) (tf : Nat) (ta : Nat) (tk : Nat) (tg : Nat) (tp : Nat) (tm : Nat) (places : Nat → Int32) (cnt : Nat) (stp : Nat) (z : Int32) (ak : Nat) (hc8 : cnt ≤ 8) : mt l g yX8_throughSet wsX8_throughSet rmX8_throughSet [.ref t] [cob t 8 [.ref ak, .ref tl, .ref tf, .ref ta, .ref tk, .ref tg, .ref tp, .ref tm, .int (nI cnt), .int (nI stp), .int z], cin g tp 8 places] (some (.int (setTo (thrs places) (cnt)))) [cob t 8 [.ref ak, .ref tl, .ref tf, .ref ta, .ref tk, .ref tg, .ref tp, .ref tm, .int (nI cnt), .int (nI stp), .int z], cin g tp 8 places] := by
  refine mt.of (cc := cX8_throughSet) (nL := 3) (ret := (some .int)) (own := RX8) (by decide +kernel) rfl rfl rfl (Nat.le_of_ble_eq_true rfl) (fun p e s m below meth c hf hr hlk _ hk hst hw ls hl => ?_)
  have hx := hf.1
  have hb := hf.2.1
  have hts := hf.2.2.2.2
  have hl : lv_has ls 3 [(0, .ref t)] := hl
  have hinX8 : ∀ w ∈ u_ws RX8 TX8 11, w ∈ wsX8_throughSet := fun w h => List.mem_cons_of_mem _ (List.mem_append_right _ h)
  have w_0 : Cond.fieldLink RX8 47 "LightMan$Tunnel" "count" "I" ∈ wsX8_throughSet := List.mem_of_getElem? (i := 1) rfl
  refine lv_iconst (v := 0) hx hb dX8_throughSet_0 (by decide) ?_
  refine lv_istore_n (lv' := [(1, .int 0), (0, .ref t)]) hx hb dX8_throughSet_1 rfl hl (by decide) rfl (fun ls hl => ?_)
  refine lv_iconst (v := 0) hx hb dX8_throughSet_2 (by decide) ?_
  refine lv_istore_n (lv' := [(2, .int 0), (1, .int 0), (0, .ref t)]) hx hb dX8_throughSet_3 rfl hl (by decide) rfl (fun ls hl => ?_)
  have lp_4_0 : ∀ (fu k : Nat), k ≤ cnt → cnt + 1 ≤ k + fu → ∀ (H : Heap) (locs : List Loc), hv g (va_I [cob t 8 [.ref ak, .ref tl, .ref tf, .ref ta, .ref tk, .ref tg, .ref tp, .ref tm, .int (nI cnt), .int (nI stp), .int z], cin g tp 8 places]) s H locs [cob t 8 [.ref ak, .ref tl, .ref tf, .ref ta, .ref tk, .ref tg, .ref tp, .ref tm, .int (nI cnt), .int (nI stp), .int z], cin g tp 8 places] → ∀ ls : Array Slot, lv_has ls 3 [(2, .int (nI k)), (1, .int (setTo (thrs places) (k))), (0, .ref t)] → W p l e rmX8_throughSet s m ([.ref t] : List Value).toArray below meth c H locs 0 0 (MQ below (mtQ g [cob t 8 [.ref ak, .ref tl, .ref tf, .ref ta, .ref tk, .ref tg, .ref tp, .ref tm, .int (nI cnt), .int (nI stp), .int z], cin g tp 8 places] (some (.int (setTo (thrs places) (cnt)))) [cob t 8 [.ref ak, .ref tl, .ref tf, .ref ta, .ref tk, .ref tg, .ref tp, .ref tm, .int (nI cnt), .int (nI stp), .int z], cin g tp 8 places]) ([.ref t] : List Value).toArray s 0 0 (va_I [cob t 8 [.ref ak, .ref tl, .ref tf, .ref ta, .ref tk, .ref tg, .ref tp, .ref tm, .int (nI cnt), .int (nI stp), .int z], cin g tp 8 places])) (F0 m 4 ls []) := by
    intro fu
    induction fu with
    | zero =>
      intro k h1 h2
      exact absurd h2 (by omega)
    | succ fu ih_4 =>
      intro k hk1_4 hk2_4 H locs hw ls hl
      refine lv_iload_n hx hb dX8_throughSet_4 rfl (lv_at hl 0 rfl) ?_
      refine lv_aload_n hx hb dX8_throughSet_5 rfl (lv_at hl 2 rfl) ?_
      refine rg hf hk hw hinX8 0 rfl rfl 8 (by decide) w_0 rfl dX8_throughSet_6 ?_
      refine lv_icmp_ge (tgt := 32) hx hb dX8_throughSet_9 (by decide) (fun c_2 => ?_) (fun c_2 => ?_)
      · have hkE : k = cnt := Nat.le_antisymm hk1_4 ((nI_leI (by omega) (by omega)).mp c_2)
        refine lv_iload_n hx hb dX8_throughSet_32 rfl (lv_at hl 1 rfl) ?_
        exact re_i hf hr hlk hw (by rw [hkE]) (rfl) dX8_throughSet_33
      · have hkE : k < cnt := Nat.not_le.mp (fun h => c_2 ((nI_leI (by omega) (by omega)).mpr h))
        refine lv_aload_n hx hb dX8_throughSet_12 rfl (lv_at hl 2 rfl) ?_
        refine lv_iload_n hx hb dX8_throughSet_13 rfl (lv_at hl 0 rfl) ?_
        refine mcV hf hk hst hw (c_X8_isThrough l g t tl tf ta tk tg tp tm places cnt stp z ak k (by omega)) (cwV 1 hts gX8_throughSet_X8_isThrough rfl rfl rfl hdV_X8_isThrough ⟨Nat.le_of_ble_eq_true rfl, Nat.le_of_ble_eq_true rfl⟩) [0, 1] rfl rfl 0 rfl rfl rfl hl.1 rfl (Nat.le_of_ble_eq_true rfl) dX8_throughSet_14 ⟨Nat.zero_le _, Nat.zero_le _⟩ (W' := [cob t 8 [.ref ak, .ref tl, .ref tf, .ref ta, .ref tk, .ref tg, .ref tp, .ref tm, .int (nI cnt), .int (nI stp), .int z], cin g tp 8 places]) rfl (fun H locs hw => ?_)
        refine lv_if_eq (tgt := 26) hx hb dX8_throughSet_17 (by decide) (fun c_3 => ?_) (fun c_3 => ?_)
        · refine lv_iinc (v := nI (k + 1)) (lv' := [(2, .int (nI (k + 1))), (1, .int (setTo (thrs places) (k))), (0, .ref t)]) hx hb dX8_throughSet_26 hl (k := 0) rfl (nI_1 _) (by decide) rfl (fun ls hl => ?_)
          refine lv_goto (tgt := 4) hx hb dX8_throughSet_29 (by decide) ?_
          have e_1 : setTo (thrs places) (k) = setTo (thrs places) ((k + 1)) := (if_pos c_3).symm
          rw [e_1] at hl
          exact ih_4 (k + 1) (by omega) (by omega) _ _ hw _ (lv_sub hl [0, 1, 2] rfl)
        · refine lv_iload_n hx hb dX8_throughSet_20 rfl (lv_at hl 1 rfl) ?_
          refine lv_iconst (v := 1) hx hb dX8_throughSet_21 (by decide) ?_
          refine lv_iload_n hx hb dX8_throughSet_22 rfl (lv_at hl 0 rfl) ?_
          refine lv_ishl hx hb dX8_throughSet_23 ?_
          refine lv_ior hx hb dX8_throughSet_24 ?_
          refine lv_istore_n (lv' := [(1, .int ((setTo (thrs places) (k)) ||| (1 <<< ((nI k) &&& 31)))), (2, .int (nI k)), (0, .ref t)]) hx hb dX8_throughSet_25 rfl hl (by decide) rfl (fun ls hl => ?_)
          refine lv_iinc (v := nI (k + 1)) (lv' := [(2, .int (nI (k + 1))), (1, .int ((setTo (thrs places) (k)) ||| (1 <<< ((nI k) &&& 31)))), (0, .ref t)]) hx hb dX8_throughSet_26 hl (k := 1) rfl (nI_1 _) (by decide) rfl (fun ls hl => ?_)
          refine lv_goto (tgt := 4) hx hb dX8_throughSet_29 (by decide) ?_
          have e_1 : (setTo (thrs places) (k)) ||| (1 <<< ((nI k) &&& 31)) = setTo (thrs places) ((k + 1)) := (if_neg c_3).symm
          rw [e_1] at hl
          exact ih_4 (k + 1) (by omega) (by omega) _ _ hw _ (lv_sub hl [0, 1, 2] rfl)
  exact lp_4_0 (cnt + 1) 0 (by omega) (by omega) _ _ hw _ (lv_sub hl [0, 1, 2] rfl)
theorem hdV_X8_seesNow : yX8_seesNow.cls = RX8 ∧ yX8_seesNow.cls ≠ "java/lang/invoke/MethodHandle" ∧ yX8_seesNow.cls ≠ "java/lang/invoke/VarHandle" ∧ (parseMethodDescriptor yX8_seesNow.desc).map (fun d => d.parameters.length) = some 1 := by decide +kernel
abbrev rmX8_seeingSet : Room := { frames := 5, cells := 0, slots := 0, locals := 113 }
set_option maxHeartbeats 4000000 in
set_option maxRecDepth 100000 in
theorem c_X8_seeingSet (l : Launch) (g : GG) (t : Nat) (tl : Nat) (tf : Nat) (ta : Nat) (tk : Nat) (tg : Nat) (tp : Nat) (tm : Nat) (laws : Nat → Int32) (fogs : Nat → Int32) (arms : Nat → Int32) (kinds : Nat → Int32) (faiths : Nat → Int32) (places : Nat → Int32) (moved : Nat → Int32) (cnt : Nat) (stp : Nat) (z : Int32) (ak : Nat) (k0 : Nat) (k1 : Nat) (k2 : Nat) (k3 : Nat) (k4 : Nat) (k5 : Nat) (hc8 : cnt ≤ 8) (hsp : stp < 2 ^ 30) (hkd : ∀ j, j < cnt → isK (kinds j)) : mt l g yX8_seeingSet wsX8_seeingSet rmX8_seeingSet [.ref t] [cob t 8 [.ref ak, .ref tl, .ref tf, .ref ta, .ref tk, .ref tg, .ref tp, .ref tm, .int (nI cnt), .int (nI stp), .int z], cin g tl 4 laws, cin g tf 6 fogs, cin g ta 6 arms, cin g tk 8 kinds, cin g tg 8 faiths, cin g tp 8 places, cin g tm 8 moved, ckd g ak 6 (kdf k0 k1 k2 k3 k4 k5), cob k0 4 [], cob k1 2 [], cob k2 5 [], cob k3 6 [], cob k4 9 [], cob k5 1 []] (some (.int (setTo (snows laws fogs arms stp kinds places) (cnt)))) [cob t 8 [.ref ak, .ref tl, .ref tf, .ref ta, .ref tk, .ref tg, .ref tp, .ref tm, .int (nI cnt), .int (nI stp), .int z], cin g tl 4 laws, cin g tf 6 fogs, cin g ta 6 arms, cin g tk 8 kinds, cin g tg 8 faiths, cin g tp 8 places, cin g tm 8 moved, ckd g ak 6 (kdf k0 k1 k2 k3 k4 k5), cob k0 4 [], cob k1 2 [], cob k2 5 [], cob k3 6 [], cob k4 9 [], cob k5 1 []] := by
  refine mt.of (cc := cX8_seeingSet) (nL := 3) (ret := (some .int)) (own := RX8) (by decide +kernel) rfl rfl rfl (Nat.le_of_ble_eq_true rfl) (fun p e s m below meth c hf hr hlk _ hk hst hw ls hl => ?_)
  have hx := hf.1
  have hb := hf.2.1
  have hts := hf.2.2.2.2
  have hl : lv_has ls 3 [(0, .ref t)] := hl
  have hinX8 : ∀ w ∈ u_ws RX8 TX8 11, w ∈ wsX8_seeingSet := fun w h => List.mem_cons_of_mem _ (List.mem_append_right _ h)
  have w_0 : Cond.fieldLink RX8 47 "LightMan$Tunnel" "count" "I" ∈ wsX8_seeingSet := List.mem_of_getElem? (i := 1) rfl
  refine lv_iconst (v := 0) hx hb dX8_seeingSet_0 (by decide) ?_
  refine lv_istore_n (lv' := [(1, .int 0), (0, .ref t)]) hx hb dX8_seeingSet_1 rfl hl (by decide) rfl (fun ls hl => ?_)
  refine lv_iconst (v := 0) hx hb dX8_seeingSet_2 (by decide) ?_
  refine lv_istore_n (lv' := [(2, .int 0), (1, .int 0), (0, .ref t)]) hx hb dX8_seeingSet_3 rfl hl (by decide) rfl (fun ls hl => ?_)
  have lp_4_0 : ∀ (fu k : Nat), k ≤ cnt → cnt + 1 ≤ k + fu → ∀ (H : Heap) (locs : List Loc), hv g (va_I [cob t 8 [.ref ak, .ref tl, .ref tf, .ref ta, .ref tk, .ref tg, .ref tp, .ref tm, .int (nI cnt), .int (nI stp), .int z], cin g tl 4 laws, cin g tf 6 fogs, cin g ta 6 arms, cin g tk 8 kinds, cin g tg 8 faiths, cin g tp 8 places, cin g tm 8 moved, ckd g ak 6 (kdf k0 k1 k2 k3 k4 k5), cob k0 4 [], cob k1 2 [], cob k2 5 [], cob k3 6 [], cob k4 9 [], cob k5 1 []]) s H locs [cob t 8 [.ref ak, .ref tl, .ref tf, .ref ta, .ref tk, .ref tg, .ref tp, .ref tm, .int (nI cnt), .int (nI stp), .int z], cin g tl 4 laws, cin g tf 6 fogs, cin g ta 6 arms, cin g tk 8 kinds, cin g tg 8 faiths, cin g tp 8 places, cin g tm 8 moved, ckd g ak 6 (kdf k0 k1 k2 k3 k4 k5), cob k0 4 [], cob k1 2 [], cob k2 5 [], cob k3 6 [], cob k4 9 [], cob k5 1 []] → ∀ ls : Array Slot, lv_has ls 3 [(2, .int (nI k)), (1, .int (setTo (snows laws fogs arms stp kinds places) (k))), (0, .ref t)] → W p l e rmX8_seeingSet s m ([.ref t] : List Value).toArray below meth c H locs 0 0 (MQ below (mtQ g [cob t 8 [.ref ak, .ref tl, .ref tf, .ref ta, .ref tk, .ref tg, .ref tp, .ref tm, .int (nI cnt), .int (nI stp), .int z], cin g tl 4 laws, cin g tf 6 fogs, cin g ta 6 arms, cin g tk 8 kinds, cin g tg 8 faiths, cin g tp 8 places, cin g tm 8 moved, ckd g ak 6 (kdf k0 k1 k2 k3 k4 k5), cob k0 4 [], cob k1 2 [], cob k2 5 [], cob k3 6 [], cob k4 9 [], cob k5 1 []] (some (.int (setTo (snows laws fogs arms stp kinds places) (cnt)))) [cob t 8 [.ref ak, .ref tl, .ref tf, .ref ta, .ref tk, .ref tg, .ref tp, .ref tm, .int (nI cnt), .int (nI stp), .int z], cin g tl 4 laws, cin g tf 6 fogs, cin g ta 6 arms, cin g tk 8 kinds, cin g tg 8 faiths, cin g tp 8 places, cin g tm 8 moved, ckd g ak 6 (kdf k0 k1 k2 k3 k4 k5), cob k0 4 [], cob k1 2 [], cob k2 5 [], cob k3 6 [], cob k4 9 [], cob k5 1 []]) ([.ref t] : List Value).toArray s 0 0 (va_I [cob t 8 [.ref ak, .ref tl, .ref tf, .ref ta, .ref tk, .ref tg, .ref tp, .ref tm, .int (nI cnt), .int (nI stp), .int z], cin g tl 4 laws, cin g tf 6 fogs, cin g ta 6 arms, cin g tk 8 kinds, cin g tg 8 faiths, cin g tp 8 places, cin g tm 8 moved, ckd g ak 6 (kdf k0 k1 k2 k3 k4 k5), cob k0 4 [], cob k1 2 [], cob k2 5 [], cob k3 6 [], cob k4 9 [], cob k5 1 []])) (F0 m 4 ls []) := by
    intro fu
    induction fu with
    | zero =>
      intro k h1 h2
      exact absurd h2 (by omega)
    | succ fu ih_4 =>
      intro k hk1_4 hk2_4 H locs hw ls hl
      refine lv_iload_n hx hb dX8_seeingSet_4 rfl (lv_at hl 0 rfl) ?_
      refine lv_aload_n hx hb dX8_seeingSet_5 rfl (lv_at hl 2 rfl) ?_
      refine rg hf hk hw hinX8 0 rfl rfl 8 (by decide) w_0 rfl dX8_seeingSet_6 ?_
      refine lv_icmp_ge (tgt := 32) hx hb dX8_seeingSet_9 (by decide) (fun c_2 => ?_) (fun c_2 => ?_)
      · have hkE : k = cnt := Nat.le_antisymm hk1_4 ((nI_leI (by omega) (by omega)).mp c_2)
        refine lv_iload_n hx hb dX8_seeingSet_32 rfl (lv_at hl 1 rfl) ?_
        exact re_i hf hr hlk hw (by rw [hkE]) (rfl) dX8_seeingSet_33
      · have hkE : k < cnt := Nat.not_le.mp (fun h => c_2 ((nI_leI (by omega) (by omega)).mpr h))
        refine lv_aload_n hx hb dX8_seeingSet_12 rfl (lv_at hl 2 rfl) ?_
        refine lv_iload_n hx hb dX8_seeingSet_13 rfl (lv_at hl 0 rfl) ?_
        refine mcV hf hk hst hw (c_X8_seesNow l g t tl tf ta tk tg tp tm laws fogs arms kinds faiths places moved cnt stp z ak k0 k1 k2 k3 k4 k5 k (by omega) (by omega) (hkd k hkE)) (cwV 1 hts gX8_seeingSet_X8_seesNow rfl rfl rfl hdV_X8_seesNow ⟨Nat.le_of_ble_eq_true rfl, Nat.le_of_ble_eq_true rfl⟩) [0, 1, 2, 3, 4, 5, 6, 7, 8, 9, 10, 11, 12, 13, 14] rfl rfl 0 rfl rfl rfl hl.1 rfl (Nat.le_of_ble_eq_true rfl) dX8_seeingSet_14 ⟨Nat.zero_le _, Nat.zero_le _⟩ (W' := [cob t 8 [.ref ak, .ref tl, .ref tf, .ref ta, .ref tk, .ref tg, .ref tp, .ref tm, .int (nI cnt), .int (nI stp), .int z], cin g tl 4 laws, cin g tf 6 fogs, cin g ta 6 arms, cin g tk 8 kinds, cin g tg 8 faiths, cin g tp 8 places, cin g tm 8 moved, ckd g ak 6 (kdf k0 k1 k2 k3 k4 k5), cob k0 4 [], cob k1 2 [], cob k2 5 [], cob k3 6 [], cob k4 9 [], cob k5 1 []]) rfl (fun H locs hw => ?_)
        refine lv_if_eq (tgt := 26) hx hb dX8_seeingSet_17 (by decide) (fun c_3 => ?_) (fun c_3 => ?_)
        · refine lv_iinc (v := nI (k + 1)) (lv' := [(2, .int (nI (k + 1))), (1, .int (setTo (snows laws fogs arms stp kinds places) (k))), (0, .ref t)]) hx hb dX8_seeingSet_26 hl (k := 0) rfl (nI_1 _) (by decide) rfl (fun ls hl => ?_)
          refine lv_goto (tgt := 4) hx hb dX8_seeingSet_29 (by decide) ?_
          have e_1 : setTo (snows laws fogs arms stp kinds places) (k) = setTo (snows laws fogs arms stp kinds places) ((k + 1)) := (if_pos c_3).symm
          rw [e_1] at hl
          exact ih_4 (k + 1) (by omega) (by omega) _ _ hw _ (lv_sub hl [0, 1, 2] rfl)
        · refine lv_iload_n hx hb dX8_seeingSet_20 rfl (lv_at hl 1 rfl) ?_
          refine lv_iconst (v := 1) hx hb dX8_seeingSet_21 (by decide) ?_
          refine lv_iload_n hx hb dX8_seeingSet_22 rfl (lv_at hl 0 rfl) ?_
          refine lv_ishl hx hb dX8_seeingSet_23 ?_
          refine lv_ior hx hb dX8_seeingSet_24 ?_
          refine lv_istore_n (lv' := [(1, .int ((setTo (snows laws fogs arms stp kinds places) (k)) ||| (1 <<< ((nI k) &&& 31)))), (2, .int (nI k)), (0, .ref t)]) hx hb dX8_seeingSet_25 rfl hl (by decide) rfl (fun ls hl => ?_)
          refine lv_iinc (v := nI (k + 1)) (lv' := [(2, .int (nI (k + 1))), (1, .int ((setTo (snows laws fogs arms stp kinds places) (k)) ||| (1 <<< ((nI k) &&& 31)))), (0, .ref t)]) hx hb dX8_seeingSet_26 hl (k := 1) rfl (nI_1 _) (by decide) rfl (fun ls hl => ?_)
          refine lv_goto (tgt := 4) hx hb dX8_seeingSet_29 (by decide) ?_
          have e_1 : (setTo (snows laws fogs arms stp kinds places) (k)) ||| (1 <<< ((nI k) &&& 31)) = setTo (snows laws fogs arms stp kinds places) ((k + 1)) := (if_neg c_3).symm
          rw [e_1] at hl
          exact ih_4 (k + 1) (by omega) (by omega) _ _ hw _ (lv_sub hl [0, 1, 2] rfl)
  exact lp_4_0 (cnt + 1) 0 (by omega) (by omega) _ _ hw _ (lv_sub hl [0, 1, 2] rfl)
abbrev rmX8_movedEver : Room := { frames := 0, cells := 0, slots := 0, locals := 0 }
set_option maxHeartbeats 4000000 in
set_option maxRecDepth 100000 in
theorem c_X8_movedEver (l : Launch) (g : GG) (t : Nat) (tl : Nat) (tf : Nat) (ta : Nat) (tk : Nat) (tg : Nat) (tp : Nat) (tm : Nat) (moved : Nat → Int32) (cnt : Nat) (stp : Nat) (z : Int32) (ak : Nat) (hc8 : cnt ≤ 8) : mt l g yX8_movedEver wsX8_movedEver rmX8_movedEver [.ref t] [cob t 8 [.ref ak, .ref tl, .ref tf, .ref ta, .ref tk, .ref tg, .ref tp, .ref tm, .int (nI cnt), .int (nI stp), .int z], cin g tm 8 moved] (some (.int (posTo moved (cnt)))) [cob t 8 [.ref ak, .ref tl, .ref tf, .ref ta, .ref tk, .ref tg, .ref tp, .ref tm, .int (nI cnt), .int (nI stp), .int z], cin g tm 8 moved] := by
  refine mt.of (cc := cX8_movedEver) (nL := 3) (ret := (some .int)) (own := RX8) (by decide +kernel) rfl rfl rfl (Nat.le_of_ble_eq_true rfl) (fun p e s m below meth c hf hr hlk _ hk hst hw ls hl => ?_)
  have hx := hf.1
  have hb := hf.2.1
  have hts := hf.2.2.2.2
  have hl : lv_has ls 3 [(0, .ref t)] := hl
  have hinX8 : ∀ w ∈ u_ws RX8 TX8 11, w ∈ wsX8_movedEver := fun w h => List.mem_cons_of_mem _ (List.mem_append_right _ h)
  have w_0 : Cond.fieldLink RX8 47 "LightMan$Tunnel" "count" "I" ∈ wsX8_movedEver := List.mem_of_getElem? (i := 1) rfl
  have w_1 : Cond.fieldLink RX8 30 "LightMan$Tunnel" "moved" "[I" ∈ wsX8_movedEver := List.mem_of_getElem? (i := 2) rfl
  refine lv_iconst (v := 0) hx hb dX8_movedEver_0 (by decide) ?_
  refine lv_istore_n (lv' := [(1, .int 0), (0, .ref t)]) hx hb dX8_movedEver_1 rfl hl (by decide) rfl (fun ls hl => ?_)
  refine lv_iconst (v := 0) hx hb dX8_movedEver_2 (by decide) ?_
  refine lv_istore_n (lv' := [(2, .int 0), (1, .int 0), (0, .ref t)]) hx hb dX8_movedEver_3 rfl hl (by decide) rfl (fun ls hl => ?_)
  have lp_4_0 : ∀ (fu k : Nat), k ≤ cnt → cnt + 1 ≤ k + fu → ∀ (H : Heap) (locs : List Loc), hv g (va_I [cob t 8 [.ref ak, .ref tl, .ref tf, .ref ta, .ref tk, .ref tg, .ref tp, .ref tm, .int (nI cnt), .int (nI stp), .int z], cin g tm 8 moved]) s H locs [cob t 8 [.ref ak, .ref tl, .ref tf, .ref ta, .ref tk, .ref tg, .ref tp, .ref tm, .int (nI cnt), .int (nI stp), .int z], cin g tm 8 moved] → ∀ ls : Array Slot, lv_has ls 3 [(2, .int (nI k)), (1, .int (posTo moved (k))), (0, .ref t)] → W p l e rmX8_movedEver s m ([.ref t] : List Value).toArray below meth c H locs 0 0 (MQ below (mtQ g [cob t 8 [.ref ak, .ref tl, .ref tf, .ref ta, .ref tk, .ref tg, .ref tp, .ref tm, .int (nI cnt), .int (nI stp), .int z], cin g tm 8 moved] (some (.int (posTo moved (cnt)))) [cob t 8 [.ref ak, .ref tl, .ref tf, .ref ta, .ref tk, .ref tg, .ref tp, .ref tm, .int (nI cnt), .int (nI stp), .int z], cin g tm 8 moved]) ([.ref t] : List Value).toArray s 0 0 (va_I [cob t 8 [.ref ak, .ref tl, .ref tf, .ref ta, .ref tk, .ref tg, .ref tp, .ref tm, .int (nI cnt), .int (nI stp), .int z], cin g tm 8 moved])) (F0 m 4 ls []) := by
    intro fu
    induction fu with
    | zero =>
      intro k h1 h2
      exact absurd h2 (by omega)
    | succ fu ih_4 =>
      intro k hk1_4 hk2_4 H locs hw ls hl
      refine lv_iload_n hx hb dX8_movedEver_4 rfl (lv_at hl 0 rfl) ?_
      refine lv_aload_n hx hb dX8_movedEver_5 rfl (lv_at hl 2 rfl) ?_
      refine rg hf hk hw hinX8 0 rfl rfl 8 (by decide) w_0 rfl dX8_movedEver_6 ?_
      refine lv_icmp_ge (tgt := 30) hx hb dX8_movedEver_9 (by decide) (fun c_2 => ?_) (fun c_2 => ?_)
      · have hkE : k = cnt := Nat.le_antisymm hk1_4 ((nI_leI (by omega) (by omega)).mp c_2)
        refine lv_iload_n hx hb dX8_movedEver_30 rfl (lv_at hl 1 rfl) ?_
        exact re_i hf hr hlk hw (by rw [hkE]) (rfl) dX8_movedEver_31
      · have hkE : k < cnt := Nat.not_le.mp (fun h => c_2 ((nI_leI (by omega) (by omega)).mpr h))
        refine lv_aload_n hx hb dX8_movedEver_12 rfl (lv_at hl 2 rfl) ?_
        refine rg hf hk hw hinX8 0 rfl rfl 7 (by decide) w_1 rfl dX8_movedEver_13 ?_
        refine lv_iload_n hx hb dX8_movedEver_16 rfl (lv_at hl 0 rfl) ?_
        refine rij hf hk hw 1 rfl (j := k) (vp_in_nI (by omega) (by omega)) (nI_clamp (by omega)) dX8_movedEver_17 ?_
        refine lv_if_le (tgt := 24) hx hb dX8_movedEver_18 (by decide) (fun c_3 => ?_) (fun c_3 => ?_)
        · refine lv_iinc (v := nI (k + 1)) (lv' := [(2, .int (nI (k + 1))), (1, .int (posTo moved (k))), (0, .ref t)]) hx hb dX8_movedEver_24 hl (k := 0) rfl (nI_1 _) (by decide) rfl (fun ls hl => ?_)
          refine lv_goto (tgt := 4) hx hb dX8_movedEver_27 (by decide) ?_
          have e_1 : posTo moved (k) = posTo moved ((k + 1)) := (if_pos c_3).symm
          rw [e_1] at hl
          exact ih_4 (k + 1) (by omega) (by omega) _ _ hw _ (lv_sub hl [0, 1, 2] rfl)
        · refine lv_iinc (v := (posTo moved (k)) + 1) (lv' := [(1, .int ((posTo moved (k)) + 1)), (2, .int (nI k)), (0, .ref t)]) hx hb dX8_movedEver_21 hl (k := 1) rfl (rfl) (by decide) rfl (fun ls hl => ?_)
          refine lv_iinc (v := nI (k + 1)) (lv' := [(2, .int (nI (k + 1))), (1, .int ((posTo moved (k)) + 1)), (0, .ref t)]) hx hb dX8_movedEver_24 hl (k := 1) rfl (nI_1 _) (by decide) rfl (fun ls hl => ?_)
          refine lv_goto (tgt := 4) hx hb dX8_movedEver_27 (by decide) ?_
          have e_1 : (posTo moved (k)) + 1 = posTo moved ((k + 1)) := (if_neg c_3).symm
          rw [e_1] at hl
          exact ih_4 (k + 1) (by omega) (by omega) _ _ hw _ (lv_sub hl [0, 1, 2] rfl)
  exact lp_4_0 (cnt + 1) 0 (by omega) (by omega) _ _ hw _ (lv_sub hl [0, 1, 2] rfl)
abbrev rmX8_faithTogether : Room := { frames := 0, cells := 0, slots := 0, locals := 0 }
set_option maxHeartbeats 4000000 in
set_option maxRecDepth 100000 in
theorem c_X8_faithTogether (l : Launch) (g : GG) (t : Nat) (tl : Nat) (tf : Nat) (ta : Nat) (tk : Nat) (tg : Nat) (tp : Nat) (tm : Nat) (faiths : Nat → Int32) (cnt : Nat) (stp : Nat) (z : Int32) (ak : Nat) (hc8 : cnt ≤ 8) : mt l g yX8_faithTogether wsX8_faithTogether rmX8_faithTogether [.ref t] [cob t 8 [.ref ak, .ref tl, .ref tf, .ref ta, .ref tk, .ref tg, .ref tp, .ref tm, .int (nI cnt), .int (nI stp), .int z], cin g tg 8 faiths] (some (.int (sumTo faiths (cnt)))) [cob t 8 [.ref ak, .ref tl, .ref tf, .ref ta, .ref tk, .ref tg, .ref tp, .ref tm, .int (nI cnt), .int (nI stp), .int z], cin g tg 8 faiths] := by
  refine mt.of (cc := cX8_faithTogether) (nL := 3) (ret := (some .int)) (own := RX8) (by decide +kernel) rfl rfl rfl (Nat.le_of_ble_eq_true rfl) (fun p e s m below meth c hf hr hlk _ hk hst hw ls hl => ?_)
  have hx := hf.1
  have hb := hf.2.1
  have hts := hf.2.2.2.2
  have hl : lv_has ls 3 [(0, .ref t)] := hl
  have hinX8 : ∀ w ∈ u_ws RX8 TX8 11, w ∈ wsX8_faithTogether := fun w h => List.mem_cons_of_mem _ (List.mem_append_right _ h)
  have w_0 : Cond.fieldLink RX8 47 "LightMan$Tunnel" "count" "I" ∈ wsX8_faithTogether := List.mem_of_getElem? (i := 1) rfl
  have w_1 : Cond.fieldLink RX8 24 "LightMan$Tunnel" "faiths" "[I" ∈ wsX8_faithTogether := List.mem_of_getElem? (i := 2) rfl
  refine lv_iconst (v := 0) hx hb dX8_faithTogether_0 (by decide) ?_
  refine lv_istore_n (lv' := [(1, .int 0), (0, .ref t)]) hx hb dX8_faithTogether_1 rfl hl (by decide) rfl (fun ls hl => ?_)
  refine lv_iconst (v := 0) hx hb dX8_faithTogether_2 (by decide) ?_
  refine lv_istore_n (lv' := [(2, .int 0), (1, .int 0), (0, .ref t)]) hx hb dX8_faithTogether_3 rfl hl (by decide) rfl (fun ls hl => ?_)
  have lp_4_0 : ∀ (fu k : Nat), k ≤ cnt → cnt + 1 ≤ k + fu → ∀ (H : Heap) (locs : List Loc), hv g (va_I [cob t 8 [.ref ak, .ref tl, .ref tf, .ref ta, .ref tk, .ref tg, .ref tp, .ref tm, .int (nI cnt), .int (nI stp), .int z], cin g tg 8 faiths]) s H locs [cob t 8 [.ref ak, .ref tl, .ref tf, .ref ta, .ref tk, .ref tg, .ref tp, .ref tm, .int (nI cnt), .int (nI stp), .int z], cin g tg 8 faiths] → ∀ ls : Array Slot, lv_has ls 3 [(2, .int (nI k)), (1, .int (sumTo faiths (k))), (0, .ref t)] → W p l e rmX8_faithTogether s m ([.ref t] : List Value).toArray below meth c H locs 0 0 (MQ below (mtQ g [cob t 8 [.ref ak, .ref tl, .ref tf, .ref ta, .ref tk, .ref tg, .ref tp, .ref tm, .int (nI cnt), .int (nI stp), .int z], cin g tg 8 faiths] (some (.int (sumTo faiths (cnt)))) [cob t 8 [.ref ak, .ref tl, .ref tf, .ref ta, .ref tk, .ref tg, .ref tp, .ref tm, .int (nI cnt), .int (nI stp), .int z], cin g tg 8 faiths]) ([.ref t] : List Value).toArray s 0 0 (va_I [cob t 8 [.ref ak, .ref tl, .ref tf, .ref ta, .ref tk, .ref tg, .ref tp, .ref tm, .int (nI cnt), .int (nI stp), .int z], cin g tg 8 faiths])) (F0 m 4 ls []) := by
    intro fu
    induction fu with
    | zero =>
      intro k h1 h2
      exact absurd h2 (by omega)
    | succ fu ih_4 =>
      intro k hk1_4 hk2_4 H locs hw ls hl
      refine lv_iload_n hx hb dX8_faithTogether_4 rfl (lv_at hl 0 rfl) ?_
      refine lv_aload_n hx hb dX8_faithTogether_5 rfl (lv_at hl 2 rfl) ?_
      refine rg hf hk hw hinX8 0 rfl rfl 8 (by decide) w_0 rfl dX8_faithTogether_6 ?_
      refine lv_icmp_ge (tgt := 27) hx hb dX8_faithTogether_9 (by decide) (fun c_2 => ?_) (fun c_2 => ?_)
      · have hkE : k = cnt := Nat.le_antisymm hk1_4 ((nI_leI (by omega) (by omega)).mp c_2)
        refine lv_iload_n hx hb dX8_faithTogether_27 rfl (lv_at hl 1 rfl) ?_
        exact re_i hf hr hlk hw (by rw [hkE]) (rfl) dX8_faithTogether_28
      · have hkE : k < cnt := Nat.not_le.mp (fun h => c_2 ((nI_leI (by omega) (by omega)).mpr h))
        refine lv_iload_n hx hb dX8_faithTogether_12 rfl (lv_at hl 1 rfl) ?_
        refine lv_aload_n hx hb dX8_faithTogether_13 rfl (lv_at hl 2 rfl) ?_
        refine rg hf hk hw hinX8 0 rfl rfl 5 (by decide) w_1 rfl dX8_faithTogether_14 ?_
        refine lv_iload_n hx hb dX8_faithTogether_17 rfl (lv_at hl 0 rfl) ?_
        refine rij hf hk hw 1 rfl (j := k) (vp_in_nI (by omega) (by omega)) (nI_clamp (by omega)) dX8_faithTogether_18 ?_
        refine lv_iadd hx hb dX8_faithTogether_19 ?_
        refine lv_istore_n (lv' := [(1, .int ((sumTo faiths (k)) + (faiths k))), (2, .int (nI k)), (0, .ref t)]) hx hb dX8_faithTogether_20 rfl hl (by decide) rfl (fun ls hl => ?_)
        refine lv_iinc (v := nI (k + 1)) (lv' := [(2, .int (nI (k + 1))), (1, .int ((sumTo faiths (k)) + (faiths k))), (0, .ref t)]) hx hb dX8_faithTogether_21 hl (k := 1) rfl (nI_1 _) (by decide) rfl (fun ls hl => ?_)
        refine lv_goto (tgt := 4) hx hb dX8_faithTogether_24 (by decide) ?_
        have e_1 : (sumTo faiths (k)) + (faiths k) = sumTo faiths ((k + 1)) := rfl
        rw [e_1] at hl
        exact ih_4 (k + 1) (by omega) (by omega) _ _ hw _ (lv_sub hl [0, 1, 2] rfl)
  exact lp_4_0 (cnt + 1) 0 (by omega) (by omega) _ _ hw _ (lv_sub hl [0, 1, 2] rfl)
abbrev rmX8_placesTogether : Room := { frames := 0, cells := 0, slots := 0, locals := 0 }
set_option maxHeartbeats 4000000 in
set_option maxRecDepth 100000 in
theorem c_X8_placesTogether (l : Launch) (g : GG) (t : Nat) (tl : Nat) (tf : Nat) (ta : Nat) (tk : Nat) (tg : Nat) (tp : Nat) (tm : Nat) (places : Nat → Int32) (cnt : Nat) (stp : Nat) (z : Int32) (ak : Nat) (hc8 : cnt ≤ 8) : mt l g yX8_placesTogether wsX8_placesTogether rmX8_placesTogether [.ref t] [cob t 8 [.ref ak, .ref tl, .ref tf, .ref ta, .ref tk, .ref tg, .ref tp, .ref tm, .int (nI cnt), .int (nI stp), .int z], cin g tp 8 places] (some (.int (sumTo places (cnt)))) [cob t 8 [.ref ak, .ref tl, .ref tf, .ref ta, .ref tk, .ref tg, .ref tp, .ref tm, .int (nI cnt), .int (nI stp), .int z], cin g tp 8 places] := by
  refine mt.of (cc := cX8_placesTogether) (nL := 3) (ret := (some .int)) (own := RX8) (by decide +kernel) rfl rfl rfl (Nat.le_of_ble_eq_true rfl) (fun p e s m below meth c hf hr hlk _ hk hst hw ls hl => ?_)
  have hx := hf.1
  have hb := hf.2.1
  have hts := hf.2.2.2.2
  have hl : lv_has ls 3 [(0, .ref t)] := hl
  have hinX8 : ∀ w ∈ u_ws RX8 TX8 11, w ∈ wsX8_placesTogether := fun w h => List.mem_cons_of_mem _ (List.mem_append_right _ h)
  have w_0 : Cond.fieldLink RX8 47 "LightMan$Tunnel" "count" "I" ∈ wsX8_placesTogether := List.mem_of_getElem? (i := 1) rfl
  have w_1 : Cond.fieldLink RX8 27 "LightMan$Tunnel" "places" "[I" ∈ wsX8_placesTogether := List.mem_of_getElem? (i := 2) rfl
  refine lv_iconst (v := 0) hx hb dX8_placesTogether_0 (by decide) ?_
  refine lv_istore_n (lv' := [(1, .int 0), (0, .ref t)]) hx hb dX8_placesTogether_1 rfl hl (by decide) rfl (fun ls hl => ?_)
  refine lv_iconst (v := 0) hx hb dX8_placesTogether_2 (by decide) ?_
  refine lv_istore_n (lv' := [(2, .int 0), (1, .int 0), (0, .ref t)]) hx hb dX8_placesTogether_3 rfl hl (by decide) rfl (fun ls hl => ?_)
  have lp_4_0 : ∀ (fu k : Nat), k ≤ cnt → cnt + 1 ≤ k + fu → ∀ (H : Heap) (locs : List Loc), hv g (va_I [cob t 8 [.ref ak, .ref tl, .ref tf, .ref ta, .ref tk, .ref tg, .ref tp, .ref tm, .int (nI cnt), .int (nI stp), .int z], cin g tp 8 places]) s H locs [cob t 8 [.ref ak, .ref tl, .ref tf, .ref ta, .ref tk, .ref tg, .ref tp, .ref tm, .int (nI cnt), .int (nI stp), .int z], cin g tp 8 places] → ∀ ls : Array Slot, lv_has ls 3 [(2, .int (nI k)), (1, .int (sumTo places (k))), (0, .ref t)] → W p l e rmX8_placesTogether s m ([.ref t] : List Value).toArray below meth c H locs 0 0 (MQ below (mtQ g [cob t 8 [.ref ak, .ref tl, .ref tf, .ref ta, .ref tk, .ref tg, .ref tp, .ref tm, .int (nI cnt), .int (nI stp), .int z], cin g tp 8 places] (some (.int (sumTo places (cnt)))) [cob t 8 [.ref ak, .ref tl, .ref tf, .ref ta, .ref tk, .ref tg, .ref tp, .ref tm, .int (nI cnt), .int (nI stp), .int z], cin g tp 8 places]) ([.ref t] : List Value).toArray s 0 0 (va_I [cob t 8 [.ref ak, .ref tl, .ref tf, .ref ta, .ref tk, .ref tg, .ref tp, .ref tm, .int (nI cnt), .int (nI stp), .int z], cin g tp 8 places])) (F0 m 4 ls []) := by
    intro fu
    induction fu with
    | zero =>
      intro k h1 h2
      exact absurd h2 (by omega)
    | succ fu ih_4 =>
      intro k hk1_4 hk2_4 H locs hw ls hl
      refine lv_iload_n hx hb dX8_placesTogether_4 rfl (lv_at hl 0 rfl) ?_
      refine lv_aload_n hx hb dX8_placesTogether_5 rfl (lv_at hl 2 rfl) ?_
      refine rg hf hk hw hinX8 0 rfl rfl 8 (by decide) w_0 rfl dX8_placesTogether_6 ?_
      refine lv_icmp_ge (tgt := 27) hx hb dX8_placesTogether_9 (by decide) (fun c_2 => ?_) (fun c_2 => ?_)
      · have hkE : k = cnt := Nat.le_antisymm hk1_4 ((nI_leI (by omega) (by omega)).mp c_2)
        refine lv_iload_n hx hb dX8_placesTogether_27 rfl (lv_at hl 1 rfl) ?_
        exact re_i hf hr hlk hw (by rw [hkE]) (rfl) dX8_placesTogether_28
      · have hkE : k < cnt := Nat.not_le.mp (fun h => c_2 ((nI_leI (by omega) (by omega)).mpr h))
        refine lv_iload_n hx hb dX8_placesTogether_12 rfl (lv_at hl 1 rfl) ?_
        refine lv_aload_n hx hb dX8_placesTogether_13 rfl (lv_at hl 2 rfl) ?_
        refine rg hf hk hw hinX8 0 rfl rfl 6 (by decide) w_1 rfl dX8_placesTogether_14 ?_
        refine lv_iload_n hx hb dX8_placesTogether_17 rfl (lv_at hl 0 rfl) ?_
        refine rij hf hk hw 1 rfl (j := k) (vp_in_nI (by omega) (by omega)) (nI_clamp (by omega)) dX8_placesTogether_18 ?_
        refine lv_iadd hx hb dX8_placesTogether_19 ?_
        refine lv_istore_n (lv' := [(1, .int ((sumTo places (k)) + (places k))), (2, .int (nI k)), (0, .ref t)]) hx hb dX8_placesTogether_20 rfl hl (by decide) rfl (fun ls hl => ?_)
        refine lv_iinc (v := nI (k + 1)) (lv' := [(2, .int (nI (k + 1))), (1, .int ((sumTo places (k)) + (places k))), (0, .ref t)]) hx hb dX8_placesTogether_21 hl (k := 1) rfl (nI_1 _) (by decide) rfl (fun ls hl => ?_)
        refine lv_goto (tgt := 4) hx hb dX8_placesTogether_24 (by decide) ?_
        have e_1 : (sumTo places (k)) + (places k) = sumTo places ((k + 1)) := rfl
        rw [e_1] at hl
        exact ih_4 (k + 1) (by omega) (by omega) _ _ hw _ (lv_sub hl [0, 1, 2] rfl)
  exact lp_4_0 (cnt + 1) 0 (by omega) (by omega) _ _ hw _ (lv_sub hl [0, 1, 2] rfl)
abbrev rmX8_copyGoer : Room := { frames := 0, cells := 0, slots := 0, locals := 0 }
set_option maxHeartbeats 4000000 in
set_option maxRecDepth 100000 in
theorem c_X8_copyGoer (l : Launch) (g : GG) (xt : Nat) (xtl : Nat) (xtf : Nat) (xta : Nat) (xtk : Nat) (xtg : Nat) (xtp : Nat) (xtm : Nat) (xkinds : Nat → Int32) (xfaiths : Nat → Int32) (xplaces : Nat → Int32) (xmoved : Nat → Int32) (xcnt : Nat) (xstp : Nat) (xz : Int32) (yt : Nat) (ytl : Nat) (ytf : Nat) (yta : Nat) (ytk : Nat) (ytg : Nat) (ytp : Nat) (ytm : Nat) (ykinds : Nat → Int32) (yfaiths : Nat → Int32) (yplaces : Nat → Int32) (ymoved : Nat → Int32) (ycnt : Nat) (ystp : Nat) (yz : Int32) (ak : Nat) (k : Nat) (hk8 : k < 8) : mt l g yX8_copyGoer wsX8_copyGoer rmX8_copyGoer [.ref xt, .ref yt, .int (nI k)] [cob xt 8 [.ref ak, .ref xtl, .ref xtf, .ref xta, .ref xtk, .ref xtg, .ref xtp, .ref xtm, .int (nI xcnt), .int (nI xstp), .int xz], cin g xtk 8 xkinds, cin g xtg 8 xfaiths, cin g xtp 8 xplaces, cin g xtm 8 xmoved, cob yt 8 [.ref ak, .ref ytl, .ref ytf, .ref yta, .ref ytk, .ref ytg, .ref ytp, .ref ytm, .int (nI ycnt), .int (nI ystp), .int yz], cin g ytk 8 ykinds, cin g ytg 8 yfaiths, cin g ytp 8 yplaces, cin g ytm 8 ymoved] none [cob xt 8 [.ref ak, .ref xtl, .ref xtf, .ref xta, .ref xtk, .ref xtg, .ref xtp, .ref xtm, .int (nI xcnt), .int (nI xstp), .int xz], cin g xtk 8 (upd xkinds k (ykinds k)), cin g xtg 8 (upd xfaiths k (yfaiths k)), cin g xtp 8 (upd xplaces k (yplaces k)), cin g xtm 8 (upd xmoved k (ymoved k)), cob yt 8 [.ref ak, .ref ytl, .ref ytf, .ref yta, .ref ytk, .ref ytg, .ref ytp, .ref ytm, .int (nI ycnt), .int (nI ystp), .int yz], cin g ytk 8 ykinds, cin g ytg 8 yfaiths, cin g ytp 8 yplaces, cin g ytm 8 ymoved] := by
  refine mt.of (cc := cX8_copyGoer) (nL := 3) (ret := none) (own := RX8) (by decide +kernel) rfl rfl rfl (Nat.le_of_ble_eq_true rfl) (fun p e s m below meth c hf hr hlk _ hk hst hw ls hl => ?_)
  have hx := hf.1
  have hb := hf.2.1
  have hts := hf.2.2.2.2
  have hl : lv_has ls 3 [(0, .ref xt), (1, .ref yt), (2, .int (nI k))] := hl
  have hinX8 : ∀ w ∈ u_ws RX8 TX8 11, w ∈ wsX8_copyGoer := fun w h => List.mem_cons_of_mem _ (List.mem_append_right _ h)
  have w_0 : Cond.fieldLink RX8 21 "LightMan$Tunnel" "kinds" "[I" ∈ wsX8_copyGoer := List.mem_of_getElem? (i := 1) rfl
  have w_1 : Cond.fieldLink RX8 24 "LightMan$Tunnel" "faiths" "[I" ∈ wsX8_copyGoer := List.mem_of_getElem? (i := 2) rfl
  have w_2 : Cond.fieldLink RX8 27 "LightMan$Tunnel" "places" "[I" ∈ wsX8_copyGoer := List.mem_of_getElem? (i := 3) rfl
  have w_3 : Cond.fieldLink RX8 30 "LightMan$Tunnel" "moved" "[I" ∈ wsX8_copyGoer := List.mem_of_getElem? (i := 4) rfl
  refine lv_aload_n hx hb dX8_copyGoer_0 rfl (lv_at hl 0 rfl) ?_
  refine rg hf hk hw hinX8 0 rfl rfl 4 (by decide) w_0 rfl dX8_copyGoer_1 ?_
  refine lv_iload_n hx hb dX8_copyGoer_4 rfl (lv_at hl 2 rfl) ?_
  refine lv_aload_n hx hb dX8_copyGoer_5 rfl (lv_at hl 1 rfl) ?_
  refine rg hf hk hw hinX8 5 rfl rfl 4 (by decide) w_0 rfl dX8_copyGoer_6 ?_
  refine lv_iload_n hx hb dX8_copyGoer_9 rfl (lv_at hl 2 rfl) ?_
  refine rij hf hk hw 6 rfl (j := k) (vp_in_nI (by omega) (by omega)) (nI_clamp (by omega)) dX8_copyGoer_10 ?_
  refine rsj hf hk hw 1 rfl (j := k) (vp_in_nI (by omega) (by omega)) (nI_clamp (by omega)) dX8_copyGoer_11 (W' := [cob xt 8 [.ref ak, .ref xtl, .ref xtf, .ref xta, .ref xtk, .ref xtg, .ref xtp, .ref xtm, .int (nI xcnt), .int (nI xstp), .int xz], cin g xtk 8 (upd xkinds k (ykinds k)), cin g xtg 8 xfaiths, cin g xtp 8 xplaces, cin g xtm 8 xmoved, cob yt 8 [.ref ak, .ref ytl, .ref ytf, .ref yta, .ref ytk, .ref ytg, .ref ytp, .ref ytm, .int (nI ycnt), .int (nI ystp), .int yz], cin g ytk 8 ykinds, cin g ytg 8 yfaiths, cin g ytp 8 yplaces, cin g ytm 8 ymoved]) rfl (fun H locs hw => ?_)
  refine lv_aload_n hx hb dX8_copyGoer_12 rfl (lv_at hl 0 rfl) ?_
  refine rg hf hk hw hinX8 0 rfl rfl 5 (by decide) w_1 rfl dX8_copyGoer_13 ?_
  refine lv_iload_n hx hb dX8_copyGoer_16 rfl (lv_at hl 2 rfl) ?_
  refine lv_aload_n hx hb dX8_copyGoer_17 rfl (lv_at hl 1 rfl) ?_
  refine rg hf hk hw hinX8 5 rfl rfl 5 (by decide) w_1 rfl dX8_copyGoer_18 ?_
  refine lv_iload_n hx hb dX8_copyGoer_21 rfl (lv_at hl 2 rfl) ?_
  refine rij hf hk hw 7 rfl (j := k) (vp_in_nI (by omega) (by omega)) (nI_clamp (by omega)) dX8_copyGoer_22 ?_
  refine rsj hf hk hw 2 rfl (j := k) (vp_in_nI (by omega) (by omega)) (nI_clamp (by omega)) dX8_copyGoer_23 (W' := [cob xt 8 [.ref ak, .ref xtl, .ref xtf, .ref xta, .ref xtk, .ref xtg, .ref xtp, .ref xtm, .int (nI xcnt), .int (nI xstp), .int xz], cin g xtk 8 (upd xkinds k (ykinds k)), cin g xtg 8 (upd xfaiths k (yfaiths k)), cin g xtp 8 xplaces, cin g xtm 8 xmoved, cob yt 8 [.ref ak, .ref ytl, .ref ytf, .ref yta, .ref ytk, .ref ytg, .ref ytp, .ref ytm, .int (nI ycnt), .int (nI ystp), .int yz], cin g ytk 8 ykinds, cin g ytg 8 yfaiths, cin g ytp 8 yplaces, cin g ytm 8 ymoved]) rfl (fun H locs hw => ?_)
  refine lv_aload_n hx hb dX8_copyGoer_24 rfl (lv_at hl 0 rfl) ?_
  refine rg hf hk hw hinX8 0 rfl rfl 6 (by decide) w_2 rfl dX8_copyGoer_25 ?_
  refine lv_iload_n hx hb dX8_copyGoer_28 rfl (lv_at hl 2 rfl) ?_
  refine lv_aload_n hx hb dX8_copyGoer_29 rfl (lv_at hl 1 rfl) ?_
  refine rg hf hk hw hinX8 5 rfl rfl 6 (by decide) w_2 rfl dX8_copyGoer_30 ?_
  refine lv_iload_n hx hb dX8_copyGoer_33 rfl (lv_at hl 2 rfl) ?_
  refine rij hf hk hw 8 rfl (j := k) (vp_in_nI (by omega) (by omega)) (nI_clamp (by omega)) dX8_copyGoer_34 ?_
  refine rsj hf hk hw 3 rfl (j := k) (vp_in_nI (by omega) (by omega)) (nI_clamp (by omega)) dX8_copyGoer_35 (W' := [cob xt 8 [.ref ak, .ref xtl, .ref xtf, .ref xta, .ref xtk, .ref xtg, .ref xtp, .ref xtm, .int (nI xcnt), .int (nI xstp), .int xz], cin g xtk 8 (upd xkinds k (ykinds k)), cin g xtg 8 (upd xfaiths k (yfaiths k)), cin g xtp 8 (upd xplaces k (yplaces k)), cin g xtm 8 xmoved, cob yt 8 [.ref ak, .ref ytl, .ref ytf, .ref yta, .ref ytk, .ref ytg, .ref ytp, .ref ytm, .int (nI ycnt), .int (nI ystp), .int yz], cin g ytk 8 ykinds, cin g ytg 8 yfaiths, cin g ytp 8 yplaces, cin g ytm 8 ymoved]) rfl (fun H locs hw => ?_)
  refine lv_aload_n hx hb dX8_copyGoer_36 rfl (lv_at hl 0 rfl) ?_
  refine rg hf hk hw hinX8 0 rfl rfl 7 (by decide) w_3 rfl dX8_copyGoer_37 ?_
  refine lv_iload_n hx hb dX8_copyGoer_40 rfl (lv_at hl 2 rfl) ?_
  refine lv_aload_n hx hb dX8_copyGoer_41 rfl (lv_at hl 1 rfl) ?_
  refine rg hf hk hw hinX8 5 rfl rfl 7 (by decide) w_3 rfl dX8_copyGoer_42 ?_
  refine lv_iload_n hx hb dX8_copyGoer_45 rfl (lv_at hl 2 rfl) ?_
  refine rij hf hk hw 9 rfl (j := k) (vp_in_nI (by omega) (by omega)) (nI_clamp (by omega)) dX8_copyGoer_46 ?_
  refine rsj hf hk hw 4 rfl (j := k) (vp_in_nI (by omega) (by omega)) (nI_clamp (by omega)) dX8_copyGoer_47 (W' := [cob xt 8 [.ref ak, .ref xtl, .ref xtf, .ref xta, .ref xtk, .ref xtg, .ref xtp, .ref xtm, .int (nI xcnt), .int (nI xstp), .int xz], cin g xtk 8 (upd xkinds k (ykinds k)), cin g xtg 8 (upd xfaiths k (yfaiths k)), cin g xtp 8 (upd xplaces k (yplaces k)), cin g xtm 8 (upd xmoved k (ymoved k)), cob yt 8 [.ref ak, .ref ytl, .ref ytf, .ref yta, .ref ytk, .ref ytg, .ref ytp, .ref ytm, .int (nI ycnt), .int (nI ystp), .int yz], cin g ytk 8 ykinds, cin g ytg 8 yfaiths, cin g ytp 8 yplaces, cin g ytm 8 ymoved]) rfl (fun H locs hw => ?_)
  exact re_v hf hr hlk hw (rfl) dX8_copyGoer_48
theorem hdV_X8_copyGoer : yX8_copyGoer.cls = RX8 ∧ yX8_copyGoer.cls ≠ "java/lang/invoke/MethodHandle" ∧ yX8_copyGoer.cls ≠ "java/lang/invoke/VarHandle" ∧ (parseMethodDescriptor yX8_copyGoer.desc).map (fun d => d.parameters.length) = some 2 := by decide +kernel
abbrev rmX8_copyFrom : Room := { frames := 1, cells := 0, slots := 0, locals := 22 }
set_option maxHeartbeats 4000000 in
set_option maxRecDepth 100000 in
theorem c_X8_copyFrom (l : Launch) (g : GG) (xt : Nat) (xtl : Nat) (xtf : Nat) (xta : Nat) (xtk : Nat) (xtg : Nat) (xtp : Nat) (xtm : Nat) (xlaws : Nat → Int32) (xfogs : Nat → Int32) (xarms : Nat → Int32) (xkinds : Nat → Int32) (xfaiths : Nat → Int32) (xplaces : Nat → Int32) (xmoved : Nat → Int32) (xcnt : Nat) (xstp : Nat) (xz : Int32) (yt : Nat) (ytl : Nat) (ytf : Nat) (yta : Nat) (ytk : Nat) (ytg : Nat) (ytp : Nat) (ytm : Nat) (ylaws : Nat → Int32) (yfogs : Nat → Int32) (yarms : Nat → Int32) (ykinds : Nat → Int32) (yfaiths : Nat → Int32) (yplaces : Nat → Int32) (ymoved : Nat → Int32) (ycnt : Nat) (ystp : Nat) (yz : Int32) (ak : Nat) (hc8 : ycnt ≤ 8) : mt l g yX8_copyFrom wsX8_copyFrom rmX8_copyFrom [.ref xt, .ref yt] [cob xt 8 [.ref ak, .ref xtl, .ref xtf, .ref xta, .ref xtk, .ref xtg, .ref xtp, .ref xtm, .int (nI xcnt), .int (nI xstp), .int xz], cin g xtl 4 xlaws, cin g xtf 6 xfogs, cin g xta 6 xarms, cin g xtk 8 xkinds, cin g xtg 8 xfaiths, cin g xtp 8 xplaces, cin g xtm 8 xmoved, cob yt 8 [.ref ak, .ref ytl, .ref ytf, .ref yta, .ref ytk, .ref ytg, .ref ytp, .ref ytm, .int (nI ycnt), .int (nI ystp), .int yz], cin g ytl 4 ylaws, cin g ytf 6 yfogs, cin g yta 6 yarms, cin g ytk 8 ykinds, cin g ytg 8 yfaiths, cin g ytp 8 yplaces, cin g ytm 8 ymoved] none [cob xt 8 [.ref ak, .ref xtl, .ref xtf, .ref xta, .ref xtk, .ref xtg, .ref xtp, .ref xtm, .int (nI ycnt), .int (nI ystp), .int yz], cin g xtl 4 ylaws, cin g xtf 6 yfogs, cin g xta 6 yarms, cin g xtk 8 (cpT xkinds ykinds ycnt), cin g xtg 8 (cpT xfaiths yfaiths ycnt), cin g xtp 8 (cpT xplaces yplaces ycnt), cin g xtm 8 (cpT xmoved ymoved ycnt), cob yt 8 [.ref ak, .ref ytl, .ref ytf, .ref yta, .ref ytk, .ref ytg, .ref ytp, .ref ytm, .int (nI ycnt), .int (nI ystp), .int yz], cin g ytl 4 ylaws, cin g ytf 6 yfogs, cin g yta 6 yarms, cin g ytk 8 ykinds, cin g ytg 8 yfaiths, cin g ytp 8 yplaces, cin g ytm 8 ymoved] := by
  refine mt.of (cc := cX8_copyFrom) (nL := 3) (ret := none) (own := RX8) (by decide +kernel) rfl rfl rfl (Nat.le_of_ble_eq_true rfl) (fun p e s m below meth c hf hr hlk _ hk hst hw ls hl => ?_)
  have hx := hf.1
  have hb := hf.2.1
  have hts := hf.2.2.2.2
  have hl : lv_has ls 3 [(0, .ref xt), (1, .ref yt)] := hl
  have hinX8 : ∀ w ∈ u_ws RX8 TX8 11, w ∈ wsX8_copyFrom := fun w h => List.mem_cons_of_mem _ (List.mem_append_right _ h)
  have w_0 : Cond.fieldLink RX8 47 "LightMan$Tunnel" "count" "I" ∈ wsX8_copyFrom := List.mem_of_getElem? (i := 4) rfl
  have w_1 : Cond.fieldLink RX8 50 "LightMan$Tunnel" "stepNumber" "I" ∈ wsX8_copyFrom := List.mem_of_getElem? (i := 5) rfl
  have w_2 : Cond.fieldLink RX8 33 "LightMan$Tunnel" "z" "I" ∈ wsX8_copyFrom := List.mem_of_getElem? (i := 6) rfl
  have w_3 : Cond.fieldLink RX8 15 "LightMan$Tunnel" "fogs" "[I" ∈ wsX8_copyFrom := List.mem_of_getElem? (i := 2) rfl
  have w_4 : Cond.fieldLink RX8 18 "LightMan$Tunnel" "arms" "[I" ∈ wsX8_copyFrom := List.mem_of_getElem? (i := 3) rfl
  have w_5 : Cond.fieldLink RX8 9 "LightMan$Tunnel" "laws" "[I" ∈ wsX8_copyFrom := List.mem_of_getElem? (i := 1) rfl
  refine lv_iconst (v := 0) hx hb dX8_copyFrom_0 (by decide) ?_
  refine lv_istore_n (lv' := [(2, .int 0), (0, .ref xt), (1, .ref yt)]) hx hb dX8_copyFrom_1 rfl hl (by decide) rfl (fun ls hl => ?_)
  have lp_2_0 : ∀ (fu k : Nat) (v1 : Nat → Int32), k ≤ 4 → 4 + 1 ≤ k + fu → v1 = cpT xlaws ylaws k → ∀ (H : Heap) (locs : List Loc), hv g (va_I [cob xt 8 [.ref ak, .ref xtl, .ref xtf, .ref xta, .ref xtk, .ref xtg, .ref xtp, .ref xtm, .int (nI xcnt), .int (nI xstp), .int xz], cin g xtl 4 xlaws, cin g xtf 6 xfogs, cin g xta 6 xarms, cin g xtk 8 xkinds, cin g xtg 8 xfaiths, cin g xtp 8 xplaces, cin g xtm 8 xmoved, cob yt 8 [.ref ak, .ref ytl, .ref ytf, .ref yta, .ref ytk, .ref ytg, .ref ytp, .ref ytm, .int (nI ycnt), .int (nI ystp), .int yz], cin g ytl 4 ylaws, cin g ytf 6 yfogs, cin g yta 6 yarms, cin g ytk 8 ykinds, cin g ytg 8 yfaiths, cin g ytp 8 yplaces, cin g ytm 8 ymoved]) s H locs [cob xt 8 [.ref ak, .ref xtl, .ref xtf, .ref xta, .ref xtk, .ref xtg, .ref xtp, .ref xtm, .int (nI xcnt), .int (nI xstp), .int xz], cin g xtl 4 v1, cin g xtf 6 xfogs, cin g xta 6 xarms, cin g xtk 8 xkinds, cin g xtg 8 xfaiths, cin g xtp 8 xplaces, cin g xtm 8 xmoved, cob yt 8 [.ref ak, .ref ytl, .ref ytf, .ref yta, .ref ytk, .ref ytg, .ref ytp, .ref ytm, .int (nI ycnt), .int (nI ystp), .int yz], cin g ytl 4 ylaws, cin g ytf 6 yfogs, cin g yta 6 yarms, cin g ytk 8 ykinds, cin g ytg 8 yfaiths, cin g ytp 8 yplaces, cin g ytm 8 ymoved] → ∀ ls : Array Slot, lv_has ls 3 [(2, .int (nI k)), (0, .ref xt), (1, .ref yt)] → W p l e rmX8_copyFrom s m ([.ref xt, .ref yt] : List Value).toArray below meth c H locs 0 0 (MQ below (mtQ g [cob xt 8 [.ref ak, .ref xtl, .ref xtf, .ref xta, .ref xtk, .ref xtg, .ref xtp, .ref xtm, .int (nI xcnt), .int (nI xstp), .int xz], cin g xtl 4 xlaws, cin g xtf 6 xfogs, cin g xta 6 xarms, cin g xtk 8 xkinds, cin g xtg 8 xfaiths, cin g xtp 8 xplaces, cin g xtm 8 xmoved, cob yt 8 [.ref ak, .ref ytl, .ref ytf, .ref yta, .ref ytk, .ref ytg, .ref ytp, .ref ytm, .int (nI ycnt), .int (nI ystp), .int yz], cin g ytl 4 ylaws, cin g ytf 6 yfogs, cin g yta 6 yarms, cin g ytk 8 ykinds, cin g ytg 8 yfaiths, cin g ytp 8 yplaces, cin g ytm 8 ymoved] none [cob xt 8 [.ref ak, .ref xtl, .ref xtf, .ref xta, .ref xtk, .ref xtg, .ref xtp, .ref xtm, .int (nI ycnt), .int (nI ystp), .int yz], cin g xtl 4 ylaws, cin g xtf 6 yfogs, cin g xta 6 yarms, cin g xtk 8 (cpT xkinds ykinds ycnt), cin g xtg 8 (cpT xfaiths yfaiths ycnt), cin g xtp 8 (cpT xplaces yplaces ycnt), cin g xtm 8 (cpT xmoved ymoved ycnt), cob yt 8 [.ref ak, .ref ytl, .ref ytf, .ref yta, .ref ytk, .ref ytg, .ref ytp, .ref ytm, .int (nI ycnt), .int (nI ystp), .int yz], cin g ytl 4 ylaws, cin g ytf 6 yfogs, cin g yta 6 yarms, cin g ytk 8 ykinds, cin g ytg 8 yfaiths, cin g ytp 8 yplaces, cin g ytm 8 ymoved]) ([.ref xt, .ref yt] : List Value).toArray s 0 0 (va_I [cob xt 8 [.ref ak, .ref xtl, .ref xtf, .ref xta, .ref xtk, .ref xtg, .ref xtp, .ref xtm, .int (nI xcnt), .int (nI xstp), .int xz], cin g xtl 4 xlaws, cin g xtf 6 xfogs, cin g xta 6 xarms, cin g xtk 8 xkinds, cin g xtg 8 xfaiths, cin g xtp 8 xplaces, cin g xtm 8 xmoved, cob yt 8 [.ref ak, .ref ytl, .ref ytf, .ref yta, .ref ytk, .ref ytg, .ref ytp, .ref ytm, .int (nI ycnt), .int (nI ystp), .int yz], cin g ytl 4 ylaws, cin g ytf 6 yfogs, cin g yta 6 yarms, cin g ytk 8 ykinds, cin g ytg 8 yfaiths, cin g ytp 8 yplaces, cin g ytm 8 ymoved])) (F0 m 2 ls []) := by
    intro fu
    induction fu with
    | zero =>
      intro k v1 h1 h2
      exact absurd h2 (by omega)
    | succ fu ih_2 =>
      intro k v1 hk1_2 hk2_2 e1 H locs hw ls hl
      refine lv_iload_n hx hb dX8_copyFrom_2 rfl (lv_at hl 0 rfl) ?_
      refine lv_iconst (v := 4) hx hb dX8_copyFrom_3 (by decide) ?_
      refine lv_icmp_ge (tgt := 25) hx hb dX8_copyFrom_4 (by decide) (fun c_2 => ?_) (fun c_2 => ?_)
      · have hkE : k = 4 := Nat.le_antisymm hk1_2 ((nI_leI (a := 4) (by omega) (by omega)).mp c_2)
        rw [hkE] at e1
        refine lv_iconst (v := 0) hx hb dX8_copyFrom_25 (by decide) ?_
        refine lv_istore_n (lv' := [(2, .int 0), (0, .ref xt), (1, .ref yt)]) hx hb dX8_copyFrom_26 rfl hl (by decide) rfl (fun ls hl => ?_)
        have lp_27_2 : ∀ (fu j : Nat) (v2 : Nat → Int32) (v3 : Nat → Int32), j ≤ 6 → 6 + 1 ≤ j + fu → v2 = cpT xfogs yfogs j → v3 = cpT xarms yarms j → ∀ (H : Heap) (locs : List Loc), hv g (va_I [cob xt 8 [.ref ak, .ref xtl, .ref xtf, .ref xta, .ref xtk, .ref xtg, .ref xtp, .ref xtm, .int (nI xcnt), .int (nI xstp), .int xz], cin g xtl 4 xlaws, cin g xtf 6 xfogs, cin g xta 6 xarms, cin g xtk 8 xkinds, cin g xtg 8 xfaiths, cin g xtp 8 xplaces, cin g xtm 8 xmoved, cob yt 8 [.ref ak, .ref ytl, .ref ytf, .ref yta, .ref ytk, .ref ytg, .ref ytp, .ref ytm, .int (nI ycnt), .int (nI ystp), .int yz], cin g ytl 4 ylaws, cin g ytf 6 yfogs, cin g yta 6 yarms, cin g ytk 8 ykinds, cin g ytg 8 yfaiths, cin g ytp 8 yplaces, cin g ytm 8 ymoved]) s H locs [cob xt 8 [.ref ak, .ref xtl, .ref xtf, .ref xta, .ref xtk, .ref xtg, .ref xtp, .ref xtm, .int (nI xcnt), .int (nI xstp), .int xz], cin g xtl 4 v1, cin g xtf 6 v2, cin g xta 6 v3, cin g xtk 8 xkinds, cin g xtg 8 xfaiths, cin g xtp 8 xplaces, cin g xtm 8 xmoved, cob yt 8 [.ref ak, .ref ytl, .ref ytf, .ref yta, .ref ytk, .ref ytg, .ref ytp, .ref ytm, .int (nI ycnt), .int (nI ystp), .int yz], cin g ytl 4 ylaws, cin g ytf 6 yfogs, cin g yta 6 yarms, cin g ytk 8 ykinds, cin g ytg 8 yfaiths, cin g ytp 8 yplaces, cin g ytm 8 ymoved] → ∀ ls : Array Slot, lv_has ls 3 [(2, .int (nI j)), (0, .ref xt), (1, .ref yt)] → W p l e rmX8_copyFrom s m ([.ref xt, .ref yt] : List Value).toArray below meth c H locs 0 0 (MQ below (mtQ g [cob xt 8 [.ref ak, .ref xtl, .ref xtf, .ref xta, .ref xtk, .ref xtg, .ref xtp, .ref xtm, .int (nI xcnt), .int (nI xstp), .int xz], cin g xtl 4 xlaws, cin g xtf 6 xfogs, cin g xta 6 xarms, cin g xtk 8 xkinds, cin g xtg 8 xfaiths, cin g xtp 8 xplaces, cin g xtm 8 xmoved, cob yt 8 [.ref ak, .ref ytl, .ref ytf, .ref yta, .ref ytk, .ref ytg, .ref ytp, .ref ytm, .int (nI ycnt), .int (nI ystp), .int yz], cin g ytl 4 ylaws, cin g ytf 6 yfogs, cin g yta 6 yarms, cin g ytk 8 ykinds, cin g ytg 8 yfaiths, cin g ytp 8 yplaces, cin g ytm 8 ymoved] none [cob xt 8 [.ref ak, .ref xtl, .ref xtf, .ref xta, .ref xtk, .ref xtg, .ref xtp, .ref xtm, .int (nI ycnt), .int (nI ystp), .int yz], cin g xtl 4 ylaws, cin g xtf 6 yfogs, cin g xta 6 yarms, cin g xtk 8 (cpT xkinds ykinds ycnt), cin g xtg 8 (cpT xfaiths yfaiths ycnt), cin g xtp 8 (cpT xplaces yplaces ycnt), cin g xtm 8 (cpT xmoved ymoved ycnt), cob yt 8 [.ref ak, .ref ytl, .ref ytf, .ref yta, .ref ytk, .ref ytg, .ref ytp, .ref ytm, .int (nI ycnt), .int (nI ystp), .int yz], cin g ytl 4 ylaws, cin g ytf 6 yfogs, cin g yta 6 yarms, cin g ytk 8 ykinds, cin g ytg 8 yfaiths, cin g ytp 8 yplaces, cin g ytm 8 ymoved]) ([.ref xt, .ref yt] : List Value).toArray s 0 0 (va_I [cob xt 8 [.ref ak, .ref xtl, .ref xtf, .ref xta, .ref xtk, .ref xtg, .ref xtp, .ref xtm, .int (nI xcnt), .int (nI xstp), .int xz], cin g xtl 4 xlaws, cin g xtf 6 xfogs, cin g xta 6 xarms, cin g xtk 8 xkinds, cin g xtg 8 xfaiths, cin g xtp 8 xplaces, cin g xtm 8 xmoved, cob yt 8 [.ref ak, .ref ytl, .ref ytf, .ref yta, .ref ytk, .ref ytg, .ref ytp, .ref ytm, .int (nI ycnt), .int (nI ystp), .int yz], cin g ytl 4 ylaws, cin g ytf 6 yfogs, cin g yta 6 yarms, cin g ytk 8 ykinds, cin g ytg 8 yfaiths, cin g ytp 8 yplaces, cin g ytm 8 ymoved])) (F0 m 27 ls []) := by
          intro fu
          induction fu with
          | zero =>
            intro j v2 v3 h1 h2
            exact absurd h2 (by omega)
          | succ fu ih_27 =>
            intro j v2 v3 hk1_27 hk2_27 e2 e3 H locs hw ls hl
            refine lv_iload_n hx hb dX8_copyFrom_27 rfl (lv_at hl 0 rfl) ?_
            refine lv_bipush (v := 6) hx hb dX8_copyFrom_28 (by decide) ?_
            refine lv_icmp_ge (tgt := 63) hx hb dX8_copyFrom_30 (by decide) (fun c_4 => ?_) (fun c_4 => ?_)
            · have hjE : j = 6 := Nat.le_antisymm hk1_27 ((nI_leI (a := 6) (by omega) (by omega)).mp c_4)
              rw [hjE] at e2 e3
              refine lv_aload_n hx hb dX8_copyFrom_63 rfl (lv_at hl 1 rfl) ?_
              refine lv_aload_n hx hb dX8_copyFrom_64 rfl (lv_at hl 2 rfl) ?_
              refine rg hf hk hw hinX8 8 rfl rfl 8 (by decide) w_0 rfl dX8_copyFrom_65 ?_
              refine rp hf hk hw hinX8 tyX8 tyX8_ok nmX8 0 rfl rfl 8 (by decide) w_0 rfl (rfl) rfl (Nat.le_of_ble_eq_true rfl) dX8_copyFrom_68 (W' := [cob xt 8 [.ref ak, .ref xtl, .ref xtf, .ref xta, .ref xtk, .ref xtg, .ref xtp, .ref xtm, .int (nI ycnt), .int (nI xstp), .int xz], cin g xtl 4 v1, cin g xtf 6 v2, cin g xta 6 v3, cin g xtk 8 xkinds, cin g xtg 8 xfaiths, cin g xtp 8 xplaces, cin g xtm 8 xmoved, cob yt 8 [.ref ak, .ref ytl, .ref ytf, .ref yta, .ref ytk, .ref ytg, .ref ytp, .ref ytm, .int (nI ycnt), .int (nI ystp), .int yz], cin g ytl 4 ylaws, cin g ytf 6 yfogs, cin g yta 6 yarms, cin g ytk 8 ykinds, cin g ytg 8 yfaiths, cin g ytp 8 yplaces, cin g ytm 8 ymoved]) rfl (fun H locs hw => ?_)
              refine lv_iconst (v := 0) hx hb dX8_copyFrom_71 (by decide) ?_
              refine lv_istore_n (lv' := [(2, .int 0), (0, .ref xt), (1, .ref yt)]) hx hb dX8_copyFrom_72 rfl hl (by decide) rfl (fun ls hl => ?_)
              have lp_73_4 : ∀ (fu q : Nat) (v4 : Nat → Int32) (v5 : Nat → Int32) (v6 : Nat → Int32) (v7 : Nat → Int32), q ≤ ycnt → ycnt + 1 ≤ q + fu → v4 = cpT xkinds ykinds q → v5 = cpT xfaiths yfaiths q → v6 = cpT xplaces yplaces q → v7 = cpT xmoved ymoved q → ∀ (H : Heap) (locs : List Loc), hv g (va_I [cob xt 8 [.ref ak, .ref xtl, .ref xtf, .ref xta, .ref xtk, .ref xtg, .ref xtp, .ref xtm, .int (nI xcnt), .int (nI xstp), .int xz], cin g xtl 4 xlaws, cin g xtf 6 xfogs, cin g xta 6 xarms, cin g xtk 8 xkinds, cin g xtg 8 xfaiths, cin g xtp 8 xplaces, cin g xtm 8 xmoved, cob yt 8 [.ref ak, .ref ytl, .ref ytf, .ref yta, .ref ytk, .ref ytg, .ref ytp, .ref ytm, .int (nI ycnt), .int (nI ystp), .int yz], cin g ytl 4 ylaws, cin g ytf 6 yfogs, cin g yta 6 yarms, cin g ytk 8 ykinds, cin g ytg 8 yfaiths, cin g ytp 8 yplaces, cin g ytm 8 ymoved]) s H locs [cob xt 8 [.ref ak, .ref xtl, .ref xtf, .ref xta, .ref xtk, .ref xtg, .ref xtp, .ref xtm, .int (nI ycnt), .int (nI xstp), .int xz], cin g xtl 4 v1, cin g xtf 6 v2, cin g xta 6 v3, cin g xtk 8 v4, cin g xtg 8 v5, cin g xtp 8 v6, cin g xtm 8 v7, cob yt 8 [.ref ak, .ref ytl, .ref ytf, .ref yta, .ref ytk, .ref ytg, .ref ytp, .ref ytm, .int (nI ycnt), .int (nI ystp), .int yz], cin g ytl 4 ylaws, cin g ytf 6 yfogs, cin g yta 6 yarms, cin g ytk 8 ykinds, cin g ytg 8 yfaiths, cin g ytp 8 yplaces, cin g ytm 8 ymoved] → ∀ ls : Array Slot, lv_has ls 3 [(2, .int (nI q)), (0, .ref xt), (1, .ref yt)] → W p l e rmX8_copyFrom s m ([.ref xt, .ref yt] : List Value).toArray below meth c H locs 0 0 (MQ below (mtQ g [cob xt 8 [.ref ak, .ref xtl, .ref xtf, .ref xta, .ref xtk, .ref xtg, .ref xtp, .ref xtm, .int (nI xcnt), .int (nI xstp), .int xz], cin g xtl 4 xlaws, cin g xtf 6 xfogs, cin g xta 6 xarms, cin g xtk 8 xkinds, cin g xtg 8 xfaiths, cin g xtp 8 xplaces, cin g xtm 8 xmoved, cob yt 8 [.ref ak, .ref ytl, .ref ytf, .ref yta, .ref ytk, .ref ytg, .ref ytp, .ref ytm, .int (nI ycnt), .int (nI ystp), .int yz], cin g ytl 4 ylaws, cin g ytf 6 yfogs, cin g yta 6 yarms, cin g ytk 8 ykinds, cin g ytg 8 yfaiths, cin g ytp 8 yplaces, cin g ytm 8 ymoved] none [cob xt 8 [.ref ak, .ref xtl, .ref xtf, .ref xta, .ref xtk, .ref xtg, .ref xtp, .ref xtm, .int (nI ycnt), .int (nI ystp), .int yz], cin g xtl 4 ylaws, cin g xtf 6 yfogs, cin g xta 6 yarms, cin g xtk 8 (cpT xkinds ykinds ycnt), cin g xtg 8 (cpT xfaiths yfaiths ycnt), cin g xtp 8 (cpT xplaces yplaces ycnt), cin g xtm 8 (cpT xmoved ymoved ycnt), cob yt 8 [.ref ak, .ref ytl, .ref ytf, .ref yta, .ref ytk, .ref ytg, .ref ytp, .ref ytm, .int (nI ycnt), .int (nI ystp), .int yz], cin g ytl 4 ylaws, cin g ytf 6 yfogs, cin g yta 6 yarms, cin g ytk 8 ykinds, cin g ytg 8 yfaiths, cin g ytp 8 yplaces, cin g ytm 8 ymoved]) ([.ref xt, .ref yt] : List Value).toArray s 0 0 (va_I [cob xt 8 [.ref ak, .ref xtl, .ref xtf, .ref xta, .ref xtk, .ref xtg, .ref xtp, .ref xtm, .int (nI xcnt), .int (nI xstp), .int xz], cin g xtl 4 xlaws, cin g xtf 6 xfogs, cin g xta 6 xarms, cin g xtk 8 xkinds, cin g xtg 8 xfaiths, cin g xtp 8 xplaces, cin g xtm 8 xmoved, cob yt 8 [.ref ak, .ref ytl, .ref ytf, .ref yta, .ref ytk, .ref ytg, .ref ytp, .ref ytm, .int (nI ycnt), .int (nI ystp), .int yz], cin g ytl 4 ylaws, cin g ytf 6 yfogs, cin g yta 6 yarms, cin g ytk 8 ykinds, cin g ytg 8 yfaiths, cin g ytp 8 yplaces, cin g ytm 8 ymoved])) (F0 m 73 ls []) := by
                intro fu
                induction fu with
                | zero =>
                  intro q v4 v5 v6 v7 h1 h2
                  exact absurd h2 (by omega)
                | succ fu ih_73 =>
                  intro q v4 v5 v6 v7 hk1_73 hk2_73 e4 e5 e6 e7 H locs hw ls hl
                  refine lv_iload_n hx hb dX8_copyFrom_73 rfl (lv_at hl 0 rfl) ?_
                  refine lv_aload_n hx hb dX8_copyFrom_74 rfl (lv_at hl 1 rfl) ?_
                  refine rg hf hk hw hinX8 0 rfl rfl 8 (by decide) w_0 rfl dX8_copyFrom_75 ?_
                  refine lv_icmp_ge (tgt := 93) hx hb dX8_copyFrom_78 (by decide) (fun c_6 => ?_) (fun c_6 => ?_)
                  · have hqE : q = ycnt := Nat.le_antisymm hk1_73 ((nI_leI (by omega) (by omega)).mp c_6)
                    rw [hqE] at e4 e5 e6 e7
                    refine lv_aload_n hx hb dX8_copyFrom_93 rfl (lv_at hl 1 rfl) ?_
                    refine lv_aload_n hx hb dX8_copyFrom_94 rfl (lv_at hl 2 rfl) ?_
                    refine rg hf hk hw hinX8 8 rfl rfl 9 (by decide) w_1 rfl dX8_copyFrom_95 ?_
                    refine rp hf hk hw hinX8 tyX8 tyX8_ok nmX8 0 rfl rfl 9 (by decide) w_1 rfl (rfl) rfl (Nat.le_of_ble_eq_true rfl) dX8_copyFrom_98 (W' := [cob xt 8 [.ref ak, .ref xtl, .ref xtf, .ref xta, .ref xtk, .ref xtg, .ref xtp, .ref xtm, .int (nI ycnt), .int (nI ystp), .int xz], cin g xtl 4 v1, cin g xtf 6 v2, cin g xta 6 v3, cin g xtk 8 v4, cin g xtg 8 v5, cin g xtp 8 v6, cin g xtm 8 v7, cob yt 8 [.ref ak, .ref ytl, .ref ytf, .ref yta, .ref ytk, .ref ytg, .ref ytp, .ref ytm, .int (nI ycnt), .int (nI ystp), .int yz], cin g ytl 4 ylaws, cin g ytf 6 yfogs, cin g yta 6 yarms, cin g ytk 8 ykinds, cin g ytg 8 yfaiths, cin g ytp 8 yplaces, cin g ytm 8 ymoved]) rfl (fun H locs hw => ?_)
                    refine lv_aload_n hx hb dX8_copyFrom_101 rfl (lv_at hl 1 rfl) ?_
                    refine lv_aload_n hx hb dX8_copyFrom_102 rfl (lv_at hl 2 rfl) ?_
                    refine rg hf hk hw hinX8 8 rfl rfl 10 (by decide) w_2 rfl dX8_copyFrom_103 ?_
                    refine rp hf hk hw hinX8 tyX8 tyX8_ok nmX8 0 rfl rfl 10 (by decide) w_2 rfl (rfl) rfl (Nat.le_of_ble_eq_true rfl) dX8_copyFrom_106 (W' := [cob xt 8 [.ref ak, .ref xtl, .ref xtf, .ref xta, .ref xtk, .ref xtg, .ref xtp, .ref xtm, .int (nI ycnt), .int (nI ystp), .int yz], cin g xtl 4 v1, cin g xtf 6 v2, cin g xta 6 v3, cin g xtk 8 v4, cin g xtg 8 v5, cin g xtp 8 v6, cin g xtm 8 v7, cob yt 8 [.ref ak, .ref ytl, .ref ytf, .ref yta, .ref ytk, .ref ytg, .ref ytp, .ref ytm, .int (nI ycnt), .int (nI ystp), .int yz], cin g ytl 4 ylaws, cin g ytf 6 yfogs, cin g yta 6 yarms, cin g ytk 8 ykinds, cin g ytg 8 yfaiths, cin g ytp 8 yplaces, cin g ytm 8 ymoved]) rfl (fun H locs hw => ?_)
                    have hw := hv_ext hw 1 (f' := ylaws) rfl (by rw [e1]; exact cpT_all) (W' := [cob xt 8 [.ref ak, .ref xtl, .ref xtf, .ref xta, .ref xtk, .ref xtg, .ref xtp, .ref xtm, .int (nI ycnt), .int (nI ystp), .int yz], cin g xtl 4 ylaws, cin g xtf 6 v2, cin g xta 6 v3, cin g xtk 8 v4, cin g xtg 8 v5, cin g xtp 8 v6, cin g xtm 8 v7, cob yt 8 [.ref ak, .ref ytl, .ref ytf, .ref yta, .ref ytk, .ref ytg, .ref ytp, .ref ytm, .int (nI ycnt), .int (nI ystp), .int yz], cin g ytl 4 ylaws, cin g ytf 6 yfogs, cin g yta 6 yarms, cin g ytk 8 ykinds, cin g ytg 8 yfaiths, cin g ytp 8 yplaces, cin g ytm 8 ymoved]) rfl
                    have hw := hv_ext hw 2 (f' := yfogs) rfl (by rw [e2]; exact cpT_all) (W' := [cob xt 8 [.ref ak, .ref xtl, .ref xtf, .ref xta, .ref xtk, .ref xtg, .ref xtp, .ref xtm, .int (nI ycnt), .int (nI ystp), .int yz], cin g xtl 4 ylaws, cin g xtf 6 yfogs, cin g xta 6 v3, cin g xtk 8 v4, cin g xtg 8 v5, cin g xtp 8 v6, cin g xtm 8 v7, cob yt 8 [.ref ak, .ref ytl, .ref ytf, .ref yta, .ref ytk, .ref ytg, .ref ytp, .ref ytm, .int (nI ycnt), .int (nI ystp), .int yz], cin g ytl 4 ylaws, cin g ytf 6 yfogs, cin g yta 6 yarms, cin g ytk 8 ykinds, cin g ytg 8 yfaiths, cin g ytp 8 yplaces, cin g ytm 8 ymoved]) rfl
                    have hw := hv_ext hw 3 (f' := yarms) rfl (by rw [e3]; exact cpT_all) (W' := [cob xt 8 [.ref ak, .ref xtl, .ref xtf, .ref xta, .ref xtk, .ref xtg, .ref xtp, .ref xtm, .int (nI ycnt), .int (nI ystp), .int yz], cin g xtl 4 ylaws, cin g xtf 6 yfogs, cin g xta 6 yarms, cin g xtk 8 v4, cin g xtg 8 v5, cin g xtp 8 v6, cin g xtm 8 v7, cob yt 8 [.ref ak, .ref ytl, .ref ytf, .ref yta, .ref ytk, .ref ytg, .ref ytp, .ref ytm, .int (nI ycnt), .int (nI ystp), .int yz], cin g ytl 4 ylaws, cin g ytf 6 yfogs, cin g yta 6 yarms, cin g ytk 8 ykinds, cin g ytg 8 yfaiths, cin g ytp 8 yplaces, cin g ytm 8 ymoved]) rfl
                    exact re_v hf hr hlk hw (by rw [e4, e5, e6, e7]) dX8_copyFrom_109
                  · have hqE : q < ycnt := Nat.not_le.mp (fun h => c_6 ((nI_leI (by omega) (by omega)).mpr h))
                    refine lv_aload_n hx hb dX8_copyFrom_81 rfl (lv_at hl 1 rfl) ?_
                    refine lv_aload_n hx hb dX8_copyFrom_82 rfl (lv_at hl 2 rfl) ?_
                    refine lv_iload_n hx hb dX8_copyFrom_83 rfl (lv_at hl 0 rfl) ?_
                    refine mcV hf hk hst hw (c_X8_copyGoer l g xt xtl xtf xta xtk xtg xtp xtm v4 v5 v6 v7 ycnt xstp xz yt ytl ytf yta ytk ytg ytp ytm ykinds yfaiths yplaces ymoved ycnt ystp yz ak q (by omega)) (cwV 2 hts gX8_copyFrom_X8_copyGoer rfl rfl rfl hdV_X8_copyGoer ⟨Nat.le_of_ble_eq_true rfl, Nat.le_of_ble_eq_true rfl⟩) [0, 4, 5, 6, 7, 8, 12, 13, 14, 15] rfl rfl 0 rfl rfl rfl hl.1 rfl (Nat.le_of_ble_eq_true rfl) dX8_copyFrom_84 ⟨Nat.zero_le _, Nat.zero_le _⟩ (W' := [cob xt 8 [.ref ak, .ref xtl, .ref xtf, .ref xta, .ref xtk, .ref xtg, .ref xtp, .ref xtm, .int (nI ycnt), .int (nI xstp), .int xz], cin g xtl 4 v1, cin g xtf 6 v2, cin g xta 6 v3, cin g xtk 8 (upd v4 q (ykinds q)), cin g xtg 8 (upd v5 q (yfaiths q)), cin g xtp 8 (upd v6 q (yplaces q)), cin g xtm 8 (upd v7 q (ymoved q)), cob yt 8 [.ref ak, .ref ytl, .ref ytf, .ref yta, .ref ytk, .ref ytg, .ref ytp, .ref ytm, .int (nI ycnt), .int (nI ystp), .int yz], cin g ytl 4 ylaws, cin g ytf 6 yfogs, cin g yta 6 yarms, cin g ytk 8 ykinds, cin g ytg 8 yfaiths, cin g ytp 8 yplaces, cin g ytm 8 ymoved]) rfl (fun H locs hw => ?_)
                    refine lv_iinc (v := nI (q + 1)) (lv' := [(2, .int (nI (q + 1))), (0, .ref xt), (1, .ref yt)]) hx hb dX8_copyFrom_87 hl (k := 0) rfl (nI_1 _) (by decide) rfl (fun ls hl => ?_)
                    refine lv_goto (tgt := 73) hx hb dX8_copyFrom_90 (by decide) ?_
                    exact ih_73 (q + 1) (upd v4 q (ykinds q)) (upd v5 q (yfaiths q)) (upd v6 q (yplaces q)) (upd v7 q (ymoved q)) (by omega) (by omega) (cpT_s e4) (cpT_s e5) (cpT_s e6) (cpT_s e7) _ _ hw _ (lv_sub hl [0, 1, 2] rfl)
              exact lp_73_4 (ycnt + 1) 0 xkinds xfaiths xplaces xmoved (by omega) (by omega) (cpT_0 _ _) (cpT_0 _ _) (cpT_0 _ _) (cpT_0 _ _) _ _ hw _ (lv_sub hl [0, 1, 2] rfl)
            · have hjE : j < 6 := Nat.not_le.mp (fun h => c_4 ((nI_leI (a := 6) (by omega) (by omega)).mpr h))
              refine lv_aload_n hx hb dX8_copyFrom_33 rfl (lv_at hl 1 rfl) ?_
              refine rg hf hk hw hinX8 0 rfl rfl 2 (by decide) w_3 rfl dX8_copyFrom_34 ?_
              refine lv_iload_n hx hb dX8_copyFrom_37 rfl (lv_at hl 0 rfl) ?_
              refine lv_aload_n hx hb dX8_copyFrom_38 rfl (lv_at hl 2 rfl) ?_
              refine rg hf hk hw hinX8 8 rfl rfl 2 (by decide) w_3 rfl dX8_copyFrom_39 ?_
              refine lv_iload_n hx hb dX8_copyFrom_42 rfl (lv_at hl 0 rfl) ?_
              refine rij hf hk hw 10 rfl (j := j) (vp_in_nI (by omega) (by omega)) (nI_clamp (by omega)) dX8_copyFrom_43 ?_
              refine rsj hf hk hw 2 rfl (j := j) (vp_in_nI (by omega) (by omega)) (nI_clamp (by omega)) dX8_copyFrom_44 (W' := [cob xt 8 [.ref ak, .ref xtl, .ref xtf, .ref xta, .ref xtk, .ref xtg, .ref xtp, .ref xtm, .int (nI xcnt), .int (nI xstp), .int xz], cin g xtl 4 v1, cin g xtf 6 (upd v2 j (yfogs j)), cin g xta 6 v3, cin g xtk 8 xkinds, cin g xtg 8 xfaiths, cin g xtp 8 xplaces, cin g xtm 8 xmoved, cob yt 8 [.ref ak, .ref ytl, .ref ytf, .ref yta, .ref ytk, .ref ytg, .ref ytp, .ref ytm, .int (nI ycnt), .int (nI ystp), .int yz], cin g ytl 4 ylaws, cin g ytf 6 yfogs, cin g yta 6 yarms, cin g ytk 8 ykinds, cin g ytg 8 yfaiths, cin g ytp 8 yplaces, cin g ytm 8 ymoved]) rfl (fun H locs hw => ?_)
              refine lv_aload_n hx hb dX8_copyFrom_45 rfl (lv_at hl 1 rfl) ?_
              refine rg hf hk hw hinX8 0 rfl rfl 3 (by decide) w_4 rfl dX8_copyFrom_46 ?_
              refine lv_iload_n hx hb dX8_copyFrom_49 rfl (lv_at hl 0 rfl) ?_
              refine lv_aload_n hx hb dX8_copyFrom_50 rfl (lv_at hl 2 rfl) ?_
              refine rg hf hk hw hinX8 8 rfl rfl 3 (by decide) w_4 rfl dX8_copyFrom_51 ?_
              refine lv_iload_n hx hb dX8_copyFrom_54 rfl (lv_at hl 0 rfl) ?_
              refine rij hf hk hw 11 rfl (j := j) (vp_in_nI (by omega) (by omega)) (nI_clamp (by omega)) dX8_copyFrom_55 ?_
              refine rsj hf hk hw 3 rfl (j := j) (vp_in_nI (by omega) (by omega)) (nI_clamp (by omega)) dX8_copyFrom_56 (W' := [cob xt 8 [.ref ak, .ref xtl, .ref xtf, .ref xta, .ref xtk, .ref xtg, .ref xtp, .ref xtm, .int (nI xcnt), .int (nI xstp), .int xz], cin g xtl 4 v1, cin g xtf 6 (upd v2 j (yfogs j)), cin g xta 6 (upd v3 j (yarms j)), cin g xtk 8 xkinds, cin g xtg 8 xfaiths, cin g xtp 8 xplaces, cin g xtm 8 xmoved, cob yt 8 [.ref ak, .ref ytl, .ref ytf, .ref yta, .ref ytk, .ref ytg, .ref ytp, .ref ytm, .int (nI ycnt), .int (nI ystp), .int yz], cin g ytl 4 ylaws, cin g ytf 6 yfogs, cin g yta 6 yarms, cin g ytk 8 ykinds, cin g ytg 8 yfaiths, cin g ytp 8 yplaces, cin g ytm 8 ymoved]) rfl (fun H locs hw => ?_)
              refine lv_iinc (v := nI (j + 1)) (lv' := [(2, .int (nI (j + 1))), (0, .ref xt), (1, .ref yt)]) hx hb dX8_copyFrom_57 hl (k := 0) rfl (nI_1 _) (by decide) rfl (fun ls hl => ?_)
              refine lv_goto (tgt := 27) hx hb dX8_copyFrom_60 (by decide) ?_
              exact ih_27 (j + 1) (upd v2 j (yfogs j)) (upd v3 j (yarms j)) (by omega) (by omega) (cpT_s e2) (cpT_s e3) _ _ hw _ (lv_sub hl [0, 1, 2] rfl)
        exact lp_27_2 (6 + 1) 0 xfogs xarms (by omega) (by omega) (cpT_0 _ _) (cpT_0 _ _) _ _ hw _ (lv_sub hl [0, 1, 2] rfl)
      · have hkE : k < 4 := Nat.not_le.mp (fun h => c_2 ((nI_leI (a := 4) (by omega) (by omega)).mpr h))
        refine lv_aload_n hx hb dX8_copyFrom_7 rfl (lv_at hl 1 rfl) ?_
        refine rg hf hk hw hinX8 0 rfl rfl 1 (by decide) w_5 rfl dX8_copyFrom_8 ?_
        refine lv_iload_n hx hb dX8_copyFrom_11 rfl (lv_at hl 0 rfl) ?_
        refine lv_aload_n hx hb dX8_copyFrom_12 rfl (lv_at hl 2 rfl) ?_
        refine rg hf hk hw hinX8 8 rfl rfl 1 (by decide) w_5 rfl dX8_copyFrom_13 ?_
        refine lv_iload_n hx hb dX8_copyFrom_16 rfl (lv_at hl 0 rfl) ?_
        refine rij hf hk hw 9 rfl (j := k) (vp_in_nI (by omega) (by omega)) (nI_clamp (by omega)) dX8_copyFrom_17 ?_
        refine rsj hf hk hw 1 rfl (j := k) (vp_in_nI (by omega) (by omega)) (nI_clamp (by omega)) dX8_copyFrom_18 (W' := [cob xt 8 [.ref ak, .ref xtl, .ref xtf, .ref xta, .ref xtk, .ref xtg, .ref xtp, .ref xtm, .int (nI xcnt), .int (nI xstp), .int xz], cin g xtl 4 (upd v1 k (ylaws k)), cin g xtf 6 xfogs, cin g xta 6 xarms, cin g xtk 8 xkinds, cin g xtg 8 xfaiths, cin g xtp 8 xplaces, cin g xtm 8 xmoved, cob yt 8 [.ref ak, .ref ytl, .ref ytf, .ref yta, .ref ytk, .ref ytg, .ref ytp, .ref ytm, .int (nI ycnt), .int (nI ystp), .int yz], cin g ytl 4 ylaws, cin g ytf 6 yfogs, cin g yta 6 yarms, cin g ytk 8 ykinds, cin g ytg 8 yfaiths, cin g ytp 8 yplaces, cin g ytm 8 ymoved]) rfl (fun H locs hw => ?_)
        refine lv_iinc (v := nI (k + 1)) (lv' := [(2, .int (nI (k + 1))), (0, .ref xt), (1, .ref yt)]) hx hb dX8_copyFrom_19 hl (k := 0) rfl (nI_1 _) (by decide) rfl (fun ls hl => ?_)
        refine lv_goto (tgt := 2) hx hb dX8_copyFrom_22 (by decide) ?_
        exact ih_2 (k + 1) (upd v1 k (ylaws k)) (by omega) (by omega) (cpT_s e1) _ _ hw _ (lv_sub hl [0, 1, 2] rfl)
  exact lp_2_0 (4 + 1) 0 xlaws (by omega) (by omega) (cpT_0 _ _) _ _ hw _ (lv_sub hl [0, 1, 2] rfl)
abbrev rmX8_add : Room := { frames := 0, cells := 0, slots := 0, locals := 0 }
set_option maxHeartbeats 4000000 in
set_option maxRecDepth 100000 in
theorem c_X8_add (l : Launch) (g : GG) (t : Nat) (tl : Nat) (tf : Nat) (ta : Nat) (tk : Nat) (tg : Nat) (tp : Nat) (tm : Nat) (kinds : Nat → Int32) (faiths : Nat → Int32) (places : Nat → Int32) (moved : Nat → Int32) (cnt : Nat) (stp : Nat) (z : Int32) (ak : Nat) (kd : Int32) (fa : Int32) (pl : Int32) (hc8 : cnt < 8) : mt l g yX8_add wsX8_add rmX8_add [.ref t, .int kd, .int fa, .int pl] [cob t 8 [.ref ak, .ref tl, .ref tf, .ref ta, .ref tk, .ref tg, .ref tp, .ref tm, .int (nI cnt), .int (nI stp), .int z], cin g tk 8 kinds, cin g tg 8 faiths, cin g tp 8 places, cin g tm 8 moved] none [cob t 8 [.ref ak, .ref tl, .ref tf, .ref ta, .ref tk, .ref tg, .ref tp, .ref tm, .int (nI (cnt + 1)), .int (nI stp), .int z], cin g tk 8 (upd kinds cnt kd), cin g tg 8 (upd faiths cnt fa), cin g tp 8 (upd places cnt pl), cin g tm 8 (upd moved cnt 0)] := by
  refine mt.of (cc := cX8_add) (nL := 4) (ret := none) (own := RX8) (by decide +kernel) rfl rfl rfl (Nat.le_of_ble_eq_true rfl) (fun p e s m below meth c hf hr hlk _ hk hst hw ls hl => ?_)
  have hx := hf.1
  have hb := hf.2.1
  have hts := hf.2.2.2.2
  have hl : lv_has ls 4 [(0, .ref t), (1, .int kd), (2, .int fa), (3, .int pl)] := hl
  have hinX8 : ∀ w ∈ u_ws RX8 TX8 11, w ∈ wsX8_add := fun w h => List.mem_cons_of_mem _ (List.mem_append_right _ h)
  have w_0 : Cond.fieldLink RX8 21 "LightMan$Tunnel" "kinds" "[I" ∈ wsX8_add := List.mem_of_getElem? (i := 1) rfl
  have w_1 : Cond.fieldLink RX8 47 "LightMan$Tunnel" "count" "I" ∈ wsX8_add := List.mem_of_getElem? (i := 2) rfl
  have w_2 : Cond.fieldLink RX8 24 "LightMan$Tunnel" "faiths" "[I" ∈ wsX8_add := List.mem_of_getElem? (i := 3) rfl
  have w_3 : Cond.fieldLink RX8 27 "LightMan$Tunnel" "places" "[I" ∈ wsX8_add := List.mem_of_getElem? (i := 4) rfl
  have w_4 : Cond.fieldLink RX8 30 "LightMan$Tunnel" "moved" "[I" ∈ wsX8_add := List.mem_of_getElem? (i := 5) rfl
  refine lv_aload_n hx hb dX8_add_0 rfl (lv_at hl 0 rfl) ?_
  refine rg hf hk hw hinX8 0 rfl rfl 4 (by decide) w_0 rfl dX8_add_1 ?_
  refine lv_aload_n hx hb dX8_add_4 rfl (lv_at hl 0 rfl) ?_
  refine rg hf hk hw hinX8 0 rfl rfl 8 (by decide) w_1 rfl dX8_add_5 ?_
  refine lv_iload_n hx hb dX8_add_8 rfl (lv_at hl 1 rfl) ?_
  refine rsj hf hk hw 1 rfl (j := cnt) (vp_in_nI (by omega) (by omega)) (nI_clamp (by omega)) dX8_add_9 (W' := [cob t 8 [.ref ak, .ref tl, .ref tf, .ref ta, .ref tk, .ref tg, .ref tp, .ref tm, .int (nI cnt), .int (nI stp), .int z], cin g tk 8 (upd kinds cnt kd), cin g tg 8 faiths, cin g tp 8 places, cin g tm 8 moved]) rfl (fun H locs hw => ?_)
  refine lv_aload_n hx hb dX8_add_10 rfl (lv_at hl 0 rfl) ?_
  refine rg hf hk hw hinX8 0 rfl rfl 5 (by decide) w_2 rfl dX8_add_11 ?_
  refine lv_aload_n hx hb dX8_add_14 rfl (lv_at hl 0 rfl) ?_
  refine rg hf hk hw hinX8 0 rfl rfl 8 (by decide) w_1 rfl dX8_add_15 ?_
  refine lv_iload_n hx hb dX8_add_18 rfl (lv_at hl 2 rfl) ?_
  refine rsj hf hk hw 2 rfl (j := cnt) (vp_in_nI (by omega) (by omega)) (nI_clamp (by omega)) dX8_add_19 (W' := [cob t 8 [.ref ak, .ref tl, .ref tf, .ref ta, .ref tk, .ref tg, .ref tp, .ref tm, .int (nI cnt), .int (nI stp), .int z], cin g tk 8 (upd kinds cnt kd), cin g tg 8 (upd faiths cnt fa), cin g tp 8 places, cin g tm 8 moved]) rfl (fun H locs hw => ?_)
  refine lv_aload_n hx hb dX8_add_20 rfl (lv_at hl 0 rfl) ?_
  refine rg hf hk hw hinX8 0 rfl rfl 6 (by decide) w_3 rfl dX8_add_21 ?_
  refine lv_aload_n hx hb dX8_add_24 rfl (lv_at hl 0 rfl) ?_
  refine rg hf hk hw hinX8 0 rfl rfl 8 (by decide) w_1 rfl dX8_add_25 ?_
  refine lv_iload_n hx hb dX8_add_28 rfl (lv_at hl 3 rfl) ?_
  refine rsj hf hk hw 3 rfl (j := cnt) (vp_in_nI (by omega) (by omega)) (nI_clamp (by omega)) dX8_add_29 (W' := [cob t 8 [.ref ak, .ref tl, .ref tf, .ref ta, .ref tk, .ref tg, .ref tp, .ref tm, .int (nI cnt), .int (nI stp), .int z], cin g tk 8 (upd kinds cnt kd), cin g tg 8 (upd faiths cnt fa), cin g tp 8 (upd places cnt pl), cin g tm 8 moved]) rfl (fun H locs hw => ?_)
  refine lv_aload_n hx hb dX8_add_30 rfl (lv_at hl 0 rfl) ?_
  refine rg hf hk hw hinX8 0 rfl rfl 7 (by decide) w_4 rfl dX8_add_31 ?_
  refine lv_aload_n hx hb dX8_add_34 rfl (lv_at hl 0 rfl) ?_
  refine rg hf hk hw hinX8 0 rfl rfl 8 (by decide) w_1 rfl dX8_add_35 ?_
  refine lv_iconst (v := 0) hx hb dX8_add_38 (by decide) ?_
  refine rsj hf hk hw 4 rfl (j := cnt) (vp_in_nI (by omega) (by omega)) (nI_clamp (by omega)) dX8_add_39 (W' := [cob t 8 [.ref ak, .ref tl, .ref tf, .ref ta, .ref tk, .ref tg, .ref tp, .ref tm, .int (nI cnt), .int (nI stp), .int z], cin g tk 8 (upd kinds cnt kd), cin g tg 8 (upd faiths cnt fa), cin g tp 8 (upd places cnt pl), cin g tm 8 (upd moved cnt 0)]) rfl (fun H locs hw => ?_)
  refine lv_aload_n hx hb dX8_add_40 rfl (lv_at hl 0 rfl) ?_
  refine lv_dup hx hb dX8_add_41 rfl ?_
  refine rg hf hk hw hinX8 0 rfl rfl 8 (by decide) w_1 rfl dX8_add_42 ?_
  refine lv_iconst (v := 1) hx hb dX8_add_45 (by decide) ?_
  refine lv_iadd hx hb dX8_add_46 ?_
  refine lv_tope (y := nI (cnt + 1)) (nI_1 _) ?_
  refine rp hf hk hw hinX8 tyX8 tyX8_ok nmX8 0 rfl rfl 8 (by decide) w_1 rfl (rfl) rfl (Nat.le_of_ble_eq_true rfl) dX8_add_47 (W' := [cob t 8 [.ref ak, .ref tl, .ref tf, .ref ta, .ref tk, .ref tg, .ref tp, .ref tm, .int (nI (cnt + 1)), .int (nI stp), .int z], cin g tk 8 (upd kinds cnt kd), cin g tg 8 (upd faiths cnt fa), cin g tp 8 (upd places cnt pl), cin g tm 8 (upd moved cnt 0)]) rfl (fun H locs hw => ?_)
  exact re_v hf hr hlk hw (rfl) dX8_add_50
abbrev rmX8_goOnAlone : Room := { frames := 5, cells := 0, slots := 0, locals := 117 }
set_option maxHeartbeats 4000000 in
set_option maxRecDepth 100000 in
theorem c_X8_goOnAlone (l : Launch) (g : GG) (t : Nat) (tl : Nat) (tf : Nat) (ta : Nat) (tk : Nat) (tg : Nat) (tp : Nat) (tm : Nat) (laws : Nat → Int32) (fogs : Nat → Int32) (arms : Nat → Int32) (kinds : Nat → Int32) (faiths : Nat → Int32) (places : Nat → Int32) (moved : Nat → Int32) (cnt : Nat) (stp : Nat) (z : Int32) (ak : Nat) (k0 : Nat) (k1 : Nat) (k2 : Nat) (k3 : Nat) (k4 : Nat) (k5 : Nat) (q : Nat) (n : Nat) (hq8 : q < 8) (hn : n < 2 ^ 20) (hsp : stp < 2 ^ 30) (hkd : isK (kinds q)) : mt l g yX8_goOnAlone wsX8_goOnAlone rmX8_goOnAlone [.ref t, .int (nI q), .int (nI n)] [cob t 8 [.ref ak, .ref tl, .ref tf, .ref ta, .ref tk, .ref tg, .ref tp, .ref tm, .int (nI cnt), .int (nI stp), .int z], cin g tl 4 laws, cin g tf 6 fogs, cin g ta 6 arms, cin g tk 8 kinds, cin g tg 8 faiths, cin g tp 8 places, cin g tm 8 moved, ckd g ak 6 (kdf k0 k1 k2 k3 k4 k5), cob k0 4 [], cob k1 2 [], cob k2 5 [], cob k3 6 [], cob k4 9 [], cob k5 1 []] (some (.int (thrF (itG laws fogs arms (kinds q) stp (faiths q) (places q) (moved q) n).2.1))) [cob t 8 [.ref ak, .ref tl, .ref tf, .ref ta, .ref tk, .ref tg, .ref tp, .ref tm, .int (nI cnt), .int (nI stp), .int z], cin g tl 4 laws, cin g tf 6 fogs, cin g ta 6 arms, cin g tk 8 kinds, cin g tg 8 (upd faiths q (itG laws fogs arms (kinds q) stp (faiths q) (places q) (moved q) n).1), cin g tp 8 (upd places q (itG laws fogs arms (kinds q) stp (faiths q) (places q) (moved q) n).2.1), cin g tm 8 (upd moved q (itG laws fogs arms (kinds q) stp (faiths q) (places q) (moved q) n).2.2), ckd g ak 6 (kdf k0 k1 k2 k3 k4 k5), cob k0 4 [], cob k1 2 [], cob k2 5 [], cob k3 6 [], cob k4 9 [], cob k5 1 []] := by
  refine mt.of (cc := cX8_goOnAlone) (nL := 4) (ret := (some .boolean)) (own := RX8) (by decide +kernel) rfl rfl rfl (Nat.le_of_ble_eq_true rfl) (fun p e s m below meth c hf hr hlk _ hk hst hw ls hl => ?_)
  have hx := hf.1
  have hb := hf.2.1
  have hts := hf.2.2.2.2
  have hl : lv_has ls 4 [(0, .ref t), (1, .int (nI q)), (2, .int (nI n))] := hl
  have hinX8 : ∀ w ∈ u_ws RX8 TX8 11, w ∈ wsX8_goOnAlone := fun w h => List.mem_cons_of_mem _ (List.mem_append_right _ h)
  have w_0 : Cond.fieldLink RX8 50 "LightMan$Tunnel" "stepNumber" "I" ∈ wsX8_goOnAlone := List.mem_of_getElem? (i := 1) rfl
  refine lv_iconst (v := 0) hx hb dX8_goOnAlone_0 (by decide) ?_
  refine lv_istore_n (lv' := [(3, .int 0), (0, .ref t), (1, .int (nI q)), (2, .int (nI n))]) hx hb dX8_goOnAlone_1 rfl hl (by decide) rfl (fun ls hl => ?_)
  have lp_2_0 : ∀ (fu k : Nat) (fa : Nat → Int32) (pl : Nat → Int32) (mo : Nat → Int32), k ≤ n → n + 1 ≤ k + fu → fa = upd faiths q (itG laws fogs arms (kinds q) stp (faiths q) (places q) (moved q) k).1 → pl = upd places q (itG laws fogs arms (kinds q) stp (faiths q) (places q) (moved q) k).2.1 → mo = upd moved q (itG laws fogs arms (kinds q) stp (faiths q) (places q) (moved q) k).2.2 → ∀ (H : Heap) (locs : List Loc), hv g (va_I [cob t 8 [.ref ak, .ref tl, .ref tf, .ref ta, .ref tk, .ref tg, .ref tp, .ref tm, .int (nI cnt), .int (nI stp), .int z], cin g tl 4 laws, cin g tf 6 fogs, cin g ta 6 arms, cin g tk 8 kinds, cin g tg 8 faiths, cin g tp 8 places, cin g tm 8 moved, ckd g ak 6 (kdf k0 k1 k2 k3 k4 k5), cob k0 4 [], cob k1 2 [], cob k2 5 [], cob k3 6 [], cob k4 9 [], cob k5 1 []]) s H locs [cob t 8 [.ref ak, .ref tl, .ref tf, .ref ta, .ref tk, .ref tg, .ref tp, .ref tm, .int (nI cnt), .int (nI stp), .int z], cin g tl 4 laws, cin g tf 6 fogs, cin g ta 6 arms, cin g tk 8 kinds, cin g tg 8 fa, cin g tp 8 pl, cin g tm 8 mo, ckd g ak 6 (kdf k0 k1 k2 k3 k4 k5), cob k0 4 [], cob k1 2 [], cob k2 5 [], cob k3 6 [], cob k4 9 [], cob k5 1 []] → ∀ ls : Array Slot, lv_has ls 4 [(3, .int (nI k)), (0, .ref t), (1, .int (nI q)), (2, .int (nI n))] → W p l e rmX8_goOnAlone s m ([.ref t, .int (nI q), .int (nI n)] : List Value).toArray below meth c H locs 0 0 (MQ below (mtQ g [cob t 8 [.ref ak, .ref tl, .ref tf, .ref ta, .ref tk, .ref tg, .ref tp, .ref tm, .int (nI cnt), .int (nI stp), .int z], cin g tl 4 laws, cin g tf 6 fogs, cin g ta 6 arms, cin g tk 8 kinds, cin g tg 8 faiths, cin g tp 8 places, cin g tm 8 moved, ckd g ak 6 (kdf k0 k1 k2 k3 k4 k5), cob k0 4 [], cob k1 2 [], cob k2 5 [], cob k3 6 [], cob k4 9 [], cob k5 1 []] (some (.int (thrF (itG laws fogs arms (kinds q) stp (faiths q) (places q) (moved q) n).2.1))) [cob t 8 [.ref ak, .ref tl, .ref tf, .ref ta, .ref tk, .ref tg, .ref tp, .ref tm, .int (nI cnt), .int (nI stp), .int z], cin g tl 4 laws, cin g tf 6 fogs, cin g ta 6 arms, cin g tk 8 kinds, cin g tg 8 (upd faiths q (itG laws fogs arms (kinds q) stp (faiths q) (places q) (moved q) n).1), cin g tp 8 (upd places q (itG laws fogs arms (kinds q) stp (faiths q) (places q) (moved q) n).2.1), cin g tm 8 (upd moved q (itG laws fogs arms (kinds q) stp (faiths q) (places q) (moved q) n).2.2), ckd g ak 6 (kdf k0 k1 k2 k3 k4 k5), cob k0 4 [], cob k1 2 [], cob k2 5 [], cob k3 6 [], cob k4 9 [], cob k5 1 []]) ([.ref t, .int (nI q), .int (nI n)] : List Value).toArray s 0 0 (va_I [cob t 8 [.ref ak, .ref tl, .ref tf, .ref ta, .ref tk, .ref tg, .ref tp, .ref tm, .int (nI cnt), .int (nI stp), .int z], cin g tl 4 laws, cin g tf 6 fogs, cin g ta 6 arms, cin g tk 8 kinds, cin g tg 8 faiths, cin g tp 8 places, cin g tm 8 moved, ckd g ak 6 (kdf k0 k1 k2 k3 k4 k5), cob k0 4 [], cob k1 2 [], cob k2 5 [], cob k3 6 [], cob k4 9 [], cob k5 1 []])) (F0 m 2 ls []) := by
    intro fu
    induction fu with
    | zero =>
      intro k fa pl mo h1 h2
      exact absurd h2 (by omega)
    | succ fu ih_2 =>
      intro k fa pl mo hk1_2 hk2_2 efa epl emo H locs hw ls hl
      refine lv_iload_n hx hb dX8_goOnAlone_2 rfl (lv_at hl 0 rfl) ?_
      refine lv_iload_n hx hb dX8_goOnAlone_3 rfl (lv_at hl 3 rfl) ?_
      refine lv_icmp_ge (tgt := 33) hx hb dX8_goOnAlone_4 (by decide) (fun c_2 => ?_) (fun c_2 => ?_)
      · have hkE : k = n := Nat.le_antisymm hk1_2 ((nI_leI (by omega) (by omega)).mp c_2)
        rw [hkE] at efa epl emo
        refine lv_aload_n hx hb dX8_goOnAlone_33 rfl (lv_at hl 1 rfl) ?_
        refine lv_iload_n hx hb dX8_goOnAlone_34 rfl (lv_at hl 2 rfl) ?_
        refine mcV hf hk hst hw (c_X8_isThrough l g t tl tf ta tk tg tp tm pl cnt stp z ak q (by omega)) (cwV 1 hts gX8_goOnAlone_X8_isThrough rfl rfl rfl hdV_X8_isThrough ⟨Nat.le_of_ble_eq_true rfl, Nat.le_of_ble_eq_true rfl⟩) [0, 6] rfl rfl 0 rfl rfl rfl hl.1 rfl (Nat.le_of_ble_eq_true rfl) dX8_goOnAlone_35 ⟨Nat.zero_le _, Nat.zero_le _⟩ (W' := [cob t 8 [.ref ak, .ref tl, .ref tf, .ref ta, .ref tk, .ref tg, .ref tp, .ref tm, .int (nI cnt), .int (nI stp), .int z], cin g tl 4 laws, cin g tf 6 fogs, cin g ta 6 arms, cin g tk 8 kinds, cin g tg 8 fa, cin g tp 8 pl, cin g tm 8 mo, ckd g ak 6 (kdf k0 k1 k2 k3 k4 k5), cob k0 4 [], cob k1 2 [], cob k2 5 [], cob k3 6 [], cob k4 9 [], cob k5 1 []]) rfl (fun H locs hw => ?_)
        exact re_z hf hr hlk hw (nar_z (thr_01 _)) (by rw [epl, pk_us]) (by rw [efa, epl, emo]) dX8_goOnAlone_38
      · have hkE : k < n := Nat.not_le.mp (fun h => c_2 ((nI_leI (by omega) (by omega)).mpr h))
        refine lv_aload_n hx hb dX8_goOnAlone_7 rfl (lv_at hl 1 rfl) ?_
        refine lv_iload_n hx hb dX8_goOnAlone_8 rfl (lv_at hl 2 rfl) ?_
        refine mcV hf hk hst hw (c_X8_isThrough l g t tl tf ta tk tg tp tm pl cnt stp z ak q (by omega)) (cwV 1 hts gX8_goOnAlone_X8_isThrough rfl rfl rfl hdV_X8_isThrough ⟨Nat.le_of_ble_eq_true rfl, Nat.le_of_ble_eq_true rfl⟩) [0, 6] rfl rfl 0 rfl rfl rfl hl.1 rfl (Nat.le_of_ble_eq_true rfl) dX8_goOnAlone_9 ⟨Nat.zero_le _, Nat.zero_le _⟩ (W' := [cob t 8 [.ref ak, .ref tl, .ref tf, .ref ta, .ref tk, .ref tg, .ref tp, .ref tm, .int (nI cnt), .int (nI stp), .int z], cin g tl 4 laws, cin g tf 6 fogs, cin g ta 6 arms, cin g tk 8 kinds, cin g tg 8 fa, cin g tp 8 pl, cin g tm 8 mo, ckd g ak 6 (kdf k0 k1 k2 k3 k4 k5), cob k0 4 [], cob k1 2 [], cob k2 5 [], cob k3 6 [], cob k4 9 [], cob k5 1 []]) rfl (fun H locs hw => ?_)
        refine lv_if_ne (tgt := 33) hx hb dX8_goOnAlone_12 (by decide) (fun c_3 => ?_) (fun c_3 => ?_)
        · have hth := c_3
          rw [epl, pk_us] at hth
          rw [itG_end (Nat.le_of_lt hkE) hth] at efa epl emo
          refine lv_aload_n hx hb dX8_goOnAlone_33 rfl (lv_at hl 1 rfl) ?_
          refine lv_iload_n hx hb dX8_goOnAlone_34 rfl (lv_at hl 2 rfl) ?_
          refine mcV hf hk hst hw (c_X8_isThrough l g t tl tf ta tk tg tp tm pl cnt stp z ak q (by omega)) (cwV 1 hts gX8_goOnAlone_X8_isThrough rfl rfl rfl hdV_X8_isThrough ⟨Nat.le_of_ble_eq_true rfl, Nat.le_of_ble_eq_true rfl⟩) [0, 6] rfl rfl 0 rfl rfl rfl hl.1 rfl (Nat.le_of_ble_eq_true rfl) dX8_goOnAlone_35 ⟨Nat.zero_le _, Nat.zero_le _⟩ (W' := [cob t 8 [.ref ak, .ref tl, .ref tf, .ref ta, .ref tk, .ref tg, .ref tp, .ref tm, .int (nI cnt), .int (nI stp), .int z], cin g tl 4 laws, cin g tf 6 fogs, cin g ta 6 arms, cin g tk 8 kinds, cin g tg 8 fa, cin g tp 8 pl, cin g tm 8 mo, ckd g ak 6 (kdf k0 k1 k2 k3 k4 k5), cob k0 4 [], cob k1 2 [], cob k2 5 [], cob k3 6 [], cob k4 9 [], cob k5 1 []]) rfl (fun H locs hw => ?_)
          exact re_z hf hr hlk hw (nar_z (thr_01 _)) (by rw [epl, pk_us]) (by rw [efa, epl, emo]) dX8_goOnAlone_38
        · refine lv_aload_n hx hb dX8_goOnAlone_15 rfl (lv_at hl 1 rfl) ?_
          refine lv_iload_n hx hb dX8_goOnAlone_16 rfl (lv_at hl 2 rfl) ?_
          refine lv_aload_n hx hb dX8_goOnAlone_17 rfl (lv_at hl 1 rfl) ?_
          refine rg hf hk hw hinX8 0 rfl rfl 9 (by decide) w_0 rfl dX8_goOnAlone_18 ?_
          refine lv_iload_n hx hb dX8_goOnAlone_21 rfl (lv_at hl 0 rfl) ?_
          refine lv_iadd hx hb dX8_goOnAlone_22 ?_
          refine lv_tope (y := nI (stp + k)) (nI_add _ _) ?_
          refine mcV hf hk hst hw (c_X8_advance l g t tl tf ta tk tg tp tm laws fogs arms kinds fa pl mo cnt stp z ak k0 k1 k2 k3 k4 k5 q (stp + k) (by omega) (by omega) (hkd)) (cwV 2 hts gX8_goOnAlone_X8_advance rfl rfl rfl hdV_X8_advance ⟨Nat.le_of_ble_eq_true rfl, Nat.le_of_ble_eq_true rfl⟩) [0, 1, 2, 3, 4, 5, 6, 7, 8, 9, 10, 11, 12, 13, 14] rfl rfl 0 rfl rfl rfl hl.1 rfl (Nat.le_of_ble_eq_true rfl) dX8_goOnAlone_23 ⟨Nat.zero_le _, Nat.zero_le _⟩ (W' := [cob t 8 [.ref ak, .ref tl, .ref tf, .ref ta, .ref tk, .ref tg, .ref tp, .ref tm, .int (nI cnt), .int (nI stp), .int z], cin g tl 4 laws, cin g tf 6 fogs, cin g ta 6 arms, cin g tk 8 kinds, cin g tg 8 (aG (thrF (pl q)) fa q (vF (kinds q) (fogs ((stp + k) % 6)) (arms ((stp + k) % 6)) (laws 0) (fa q) (pl q))), cin g tp 8 (aG (thrF (pl q)) pl q (vP (kinds q) (nI (stp + k)) (seesF (kinds q) (fogs ((stp + k) % 6)) (arms ((stp + k) % 6)) (laws 0) (pl q)) (laws 1) (laws 2) (vF (kinds q) (fogs ((stp + k) % 6)) (arms ((stp + k) % 6)) (laws 0) (fa q) (pl q)) (pl q))), cin g tm 8 (aG (thrF (pl q)) mo q (vM (kinds q) (fogs ((stp + k) % 6)) (arms ((stp + k) % 6)) (laws 0) (pl q) (mo q))), ckd g ak 6 (kdf k0 k1 k2 k3 k4 k5), cob k0 4 [], cob k1 2 [], cob k2 5 [], cob k3 6 [], cob k4 9 [], cob k5 1 []]) rfl (fun H locs hw => ?_)
          refine lv_pop hx hb dX8_goOnAlone_26 rfl ?_
          refine lv_iinc (v := nI (k + 1)) (lv' := [(3, .int (nI (k + 1))), (0, .ref t), (1, .int (nI q)), (2, .int (nI n))]) hx hb dX8_goOnAlone_27 hl (k := 0) rfl (nI_1 _) (by decide) rfl (fun ls hl => ?_)
          refine lv_goto (tgt := 2) hx hb dX8_goOnAlone_30 (by decide) ?_
          exact ih_2 (k + 1) (aG (thrF (pl q)) fa q (vF (kinds q) (fogs ((stp + k) % 6)) (arms ((stp + k) % 6)) (laws 0) (fa q) (pl q))) (aG (thrF (pl q)) pl q (vP (kinds q) (nI (stp + k)) (seesF (kinds q) (fogs ((stp + k) % 6)) (arms ((stp + k) % 6)) (laws 0) (pl q)) (laws 1) (laws 2) (vF (kinds q) (fogs ((stp + k) % 6)) (arms ((stp + k) % 6)) (laws 0) (fa q) (pl q)) (pl q))) (aG (thrF (pl q)) mo q (vM (kinds q) (fogs ((stp + k) % 6)) (arms ((stp + k) % 6)) (laws 0) (pl q) (mo q))) (by omega) (by omega) ((itG_s efa epl emo).1) ((itG_s efa epl emo).2.1) ((itG_s efa epl emo).2.2) _ _ hw _ (lv_sub hl [0, 1, 2, 3] rfl)
  exact lp_2_0 (n + 1) 0 faiths places moved (by omega) (by omega) (upd_self _ _) (upd_self _ _) (upd_self _ _) _ _ hw _ (lv_sub hl [0, 1, 2, 3] rfl)
theorem hdV_X8_goOnAlone : yX8_goOnAlone.cls = RX8 ∧ yX8_goOnAlone.cls ≠ "java/lang/invoke/MethodHandle" ∧ yX8_goOnAlone.cls ≠ "java/lang/invoke/VarHandle" ∧ (parseMethodDescriptor yX8_goOnAlone.desc).map (fun d => d.parameters.length) = some 2 := by decide +kernel
abbrev rmX8_passedBehind : Room := { frames := 6, cells := 0, slots := 0, locals := 140 }
set_option maxHeartbeats 4000000 in
set_option maxRecDepth 100000 in
theorem c_X8_passedBehind (l : Launch) (g : GG) (t : Nat) (tl : Nat) (tf : Nat) (ta : Nat) (tk : Nat) (tg : Nat) (tp : Nat) (tm : Nat) (laws : Nat → Int32) (fogs : Nat → Int32) (arms : Nat → Int32) (kinds : Nat → Int32) (faiths : Nat → Int32) (places : Nat → Int32) (moved : Nat → Int32) (cnt : Nat) (stp : Nat) (z : Int32) (ak : Nat) (k0 : Nat) (k1 : Nat) (k2 : Nat) (k3 : Nat) (k4 : Nat) (k5 : Nat) (n : Nat) (hc8 : cnt ≤ 8) (hsp : stp < 2 ^ 30) (hkd : ∀ j, j < cnt → isK (kinds j)) (hn : n < 2 ^ 20) : mt l g yX8_passedBehind wsX8_passedBehind rmX8_passedBehind [.ref t, .int (nI n)] [cob t 8 [.ref ak, .ref tl, .ref tf, .ref ta, .ref tk, .ref tg, .ref tp, .ref tm, .int (nI cnt), .int (nI stp), .int z], cin g tl 4 laws, cin g tf 6 fogs, cin g ta 6 arms, cin g tk 8 kinds, cin g tg 8 faiths, cin g tp 8 places, cin g tm 8 moved, ckd g ak 6 (kdf k0 k1 k2 k3 k4 k5), cob k0 4 [], cob k1 2 [], cob k2 5 [], cob k3 6 [], cob k4 9 [], cob k5 1 []] (some (.int (oneTo (thrN laws fogs arms stp n kinds faiths places moved) cnt))) [cob t 8 [.ref ak, .ref tl, .ref tf, .ref ta, .ref tk, .ref tg, .ref tp, .ref tm, .int (nI cnt), .int (nI stp), .int z], cin g tl 4 laws, cin g tf 6 fogs, cin g ta 6 arms, cin g tk 8 kinds, cin g tg 8 (gaF laws fogs arms stp n kinds faiths places moved cnt), cin g tp 8 (gaP laws fogs arms stp n kinds faiths places moved cnt), cin g tm 8 (gaM laws fogs arms stp n kinds faiths places moved cnt), ckd g ak 6 (kdf k0 k1 k2 k3 k4 k5), cob k0 4 [], cob k1 2 [], cob k2 5 [], cob k3 6 [], cob k4 9 [], cob k5 1 []] := by
  refine mt.of (cc := cX8_passedBehind) (nL := 4) (ret := (some .int)) (own := RX8) (by decide +kernel) rfl rfl rfl (Nat.le_of_ble_eq_true rfl) (fun p e s m below meth c hf hr hlk _ hk hst hw ls hl => ?_)
  have hx := hf.1
  have hb := hf.2.1
  have hts := hf.2.2.2.2
  have hl : lv_has ls 4 [(0, .ref t), (1, .int (nI n))] := hl
  have hinX8 : ∀ w ∈ u_ws RX8 TX8 11, w ∈ wsX8_passedBehind := fun w h => List.mem_cons_of_mem _ (List.mem_append_right _ h)
  have w_0 : Cond.fieldLink RX8 47 "LightMan$Tunnel" "count" "I" ∈ wsX8_passedBehind := List.mem_of_getElem? (i := 1) rfl
  refine lv_iconst (v := 0) hx hb dX8_passedBehind_0 (by decide) ?_
  refine lv_istore_n (lv' := [(2, .int 0), (0, .ref t), (1, .int (nI n))]) hx hb dX8_passedBehind_1 rfl hl (by decide) rfl (fun ls hl => ?_)
  refine lv_iconst (v := 0) hx hb dX8_passedBehind_2 (by decide) ?_
  refine lv_istore_n (lv' := [(3, .int 0), (2, .int 0), (0, .ref t), (1, .int (nI n))]) hx hb dX8_passedBehind_3 rfl hl (by decide) rfl (fun ls hl => ?_)
  have lp_4_0 : ∀ (fu q : Nat) (fa : Nat → Int32) (pl : Nat → Int32) (mo : Nat → Int32), q ≤ cnt → cnt + 1 ≤ q + fu → fa = gaF laws fogs arms stp n kinds faiths places moved q → pl = gaP laws fogs arms stp n kinds faiths places moved q → mo = gaM laws fogs arms stp n kinds faiths places moved q → ∀ (H : Heap) (locs : List Loc), hv g (va_I [cob t 8 [.ref ak, .ref tl, .ref tf, .ref ta, .ref tk, .ref tg, .ref tp, .ref tm, .int (nI cnt), .int (nI stp), .int z], cin g tl 4 laws, cin g tf 6 fogs, cin g ta 6 arms, cin g tk 8 kinds, cin g tg 8 faiths, cin g tp 8 places, cin g tm 8 moved, ckd g ak 6 (kdf k0 k1 k2 k3 k4 k5), cob k0 4 [], cob k1 2 [], cob k2 5 [], cob k3 6 [], cob k4 9 [], cob k5 1 []]) s H locs [cob t 8 [.ref ak, .ref tl, .ref tf, .ref ta, .ref tk, .ref tg, .ref tp, .ref tm, .int (nI cnt), .int (nI stp), .int z], cin g tl 4 laws, cin g tf 6 fogs, cin g ta 6 arms, cin g tk 8 kinds, cin g tg 8 fa, cin g tp 8 pl, cin g tm 8 mo, ckd g ak 6 (kdf k0 k1 k2 k3 k4 k5), cob k0 4 [], cob k1 2 [], cob k2 5 [], cob k3 6 [], cob k4 9 [], cob k5 1 []] → ∀ ls : Array Slot, lv_has ls 4 [(3, .int (nI q)), (2, .int (oneTo (thrN laws fogs arms stp n kinds faiths places moved) q)), (0, .ref t), (1, .int (nI n))] → W p l e rmX8_passedBehind s m ([.ref t, .int (nI n)] : List Value).toArray below meth c H locs 0 0 (MQ below (mtQ g [cob t 8 [.ref ak, .ref tl, .ref tf, .ref ta, .ref tk, .ref tg, .ref tp, .ref tm, .int (nI cnt), .int (nI stp), .int z], cin g tl 4 laws, cin g tf 6 fogs, cin g ta 6 arms, cin g tk 8 kinds, cin g tg 8 faiths, cin g tp 8 places, cin g tm 8 moved, ckd g ak 6 (kdf k0 k1 k2 k3 k4 k5), cob k0 4 [], cob k1 2 [], cob k2 5 [], cob k3 6 [], cob k4 9 [], cob k5 1 []] (some (.int (oneTo (thrN laws fogs arms stp n kinds faiths places moved) cnt))) [cob t 8 [.ref ak, .ref tl, .ref tf, .ref ta, .ref tk, .ref tg, .ref tp, .ref tm, .int (nI cnt), .int (nI stp), .int z], cin g tl 4 laws, cin g tf 6 fogs, cin g ta 6 arms, cin g tk 8 kinds, cin g tg 8 (gaF laws fogs arms stp n kinds faiths places moved cnt), cin g tp 8 (gaP laws fogs arms stp n kinds faiths places moved cnt), cin g tm 8 (gaM laws fogs arms stp n kinds faiths places moved cnt), ckd g ak 6 (kdf k0 k1 k2 k3 k4 k5), cob k0 4 [], cob k1 2 [], cob k2 5 [], cob k3 6 [], cob k4 9 [], cob k5 1 []]) ([.ref t, .int (nI n)] : List Value).toArray s 0 0 (va_I [cob t 8 [.ref ak, .ref tl, .ref tf, .ref ta, .ref tk, .ref tg, .ref tp, .ref tm, .int (nI cnt), .int (nI stp), .int z], cin g tl 4 laws, cin g tf 6 fogs, cin g ta 6 arms, cin g tk 8 kinds, cin g tg 8 faiths, cin g tp 8 places, cin g tm 8 moved, ckd g ak 6 (kdf k0 k1 k2 k3 k4 k5), cob k0 4 [], cob k1 2 [], cob k2 5 [], cob k3 6 [], cob k4 9 [], cob k5 1 []])) (F0 m 4 ls []) := by
    intro fu
    induction fu with
    | zero =>
      intro q fa pl mo h1 h2
      exact absurd h2 (by omega)
    | succ fu ih_4 =>
      intro q fa pl mo hk1_4 hk2_4 efa epl emo H locs hw ls hl
      refine lv_iload_n hx hb dX8_passedBehind_4 rfl (lv_at hl 0 rfl) ?_
      refine lv_aload_n hx hb dX8_passedBehind_5 rfl (lv_at hl 2 rfl) ?_
      refine rg hf hk hw hinX8 0 rfl rfl 8 (by decide) w_0 rfl dX8_passedBehind_6 ?_
      refine lv_icmp_ge (tgt := 30) hx hb dX8_passedBehind_9 (by decide) (fun c_2 => ?_) (fun c_2 => ?_)
      · have hkE : q = cnt := Nat.le_antisymm hk1_4 ((nI_leI (by omega) (by omega)).mp c_2)
        rw [hkE] at efa epl emo
        refine lv_iload_n hx hb dX8_passedBehind_30 rfl (lv_at hl 1 rfl) ?_
        exact re_i hf hr hlk hw (by rw [hkE]) (by rw [efa, epl, emo]) dX8_passedBehind_31
      · have hkE : q < cnt := Nat.not_le.mp (fun h => c_2 ((nI_leI (by omega) (by omega)).mpr h))
        refine lv_aload_n hx hb dX8_passedBehind_12 rfl (lv_at hl 2 rfl) ?_
        refine lv_iload_n hx hb dX8_passedBehind_13 rfl (lv_at hl 0 rfl) ?_
        refine lv_iload_n hx hb dX8_passedBehind_14 rfl (lv_at hl 3 rfl) ?_
        refine mcV hf hk hst hw (c_X8_goOnAlone l g t tl tf ta tk tg tp tm laws fogs arms kinds fa pl mo cnt stp z ak k0 k1 k2 k3 k4 k5 q n (by omega) (by omega) (by omega) (hkd q hkE)) (cwV 2 hts gX8_passedBehind_X8_goOnAlone rfl rfl rfl hdV_X8_goOnAlone ⟨Nat.le_of_ble_eq_true rfl, Nat.le_of_ble_eq_true rfl⟩) [0, 1, 2, 3, 4, 5, 6, 7, 8, 9, 10, 11, 12, 13, 14] rfl rfl 0 rfl rfl rfl hl.1 rfl (Nat.le_of_ble_eq_true rfl) dX8_passedBehind_15 ⟨Nat.zero_le _, Nat.zero_le _⟩ (W' := [cob t 8 [.ref ak, .ref tl, .ref tf, .ref ta, .ref tk, .ref tg, .ref tp, .ref tm, .int (nI cnt), .int (nI stp), .int z], cin g tl 4 laws, cin g tf 6 fogs, cin g ta 6 arms, cin g tk 8 kinds, cin g tg 8 (upd fa q (itG laws fogs arms (kinds q) stp (fa q) (pl q) (mo q) n).1), cin g tp 8 (upd pl q (itG laws fogs arms (kinds q) stp (fa q) (pl q) (mo q) n).2.1), cin g tm 8 (upd mo q (itG laws fogs arms (kinds q) stp (fa q) (pl q) (mo q) n).2.2), ckd g ak 6 (kdf k0 k1 k2 k3 k4 k5), cob k0 4 [], cob k1 2 [], cob k2 5 [], cob k3 6 [], cob k4 9 [], cob k5 1 []]) rfl (fun H locs hw => ?_)
        refine lv_if_eq (tgt := 24) hx hb dX8_passedBehind_18 (by decide) (fun c_3 => ?_) (fun c_3 => ?_)
        · refine lv_iinc (v := nI (q + 1)) (lv' := [(3, .int (nI (q + 1))), (2, .int (oneTo (thrN laws fogs arms stp n kinds faiths places moved) q)), (0, .ref t), (1, .int (nI n))]) hx hb dX8_passedBehind_24 hl (k := 0) rfl (nI_1 _) (by decide) rfl (fun ls hl => ?_)
          refine lv_goto (tgt := 4) hx hb dX8_passedBehind_27 (by decide) ?_
          have h1 : fa q = faiths q := ga_k efa
          have h2 : pl q = places q := ga_k epl
          have h3 : mo q = moved q := ga_k emo
          have e_1 : oneTo (thrN laws fogs arms stp n kinds faiths places moved) q = oneTo (thrN laws fogs arms stp n kinds faiths places moved) (q + 1) := by have hc := c_3; rw [h1, h2, h3] at hc; exact (if_pos hc).symm
          rw [e_1] at hl
          exact ih_4 (q + 1) (upd fa q (itG laws fogs arms (kinds q) stp (fa q) (pl q) (mo q) n).1) (upd pl q (itG laws fogs arms (kinds q) stp (fa q) (pl q) (mo q) n).2.1) (upd mo q (itG laws fogs arms (kinds q) stp (fa q) (pl q) (mo q) n).2.2) (by omega) (by omega) (by rw [h1, h2, h3]; exact ga_s efa) (by rw [h1, h2, h3]; exact ga_s epl) (by rw [h1, h2, h3]; exact ga_s emo) _ _ hw _ (lv_sub hl [0, 1, 2, 3] rfl)
        · refine lv_iinc (v := oneTo (thrN laws fogs arms stp n kinds faiths places moved) q + 1) (lv' := [(2, .int (oneTo (thrN laws fogs arms stp n kinds faiths places moved) q + 1)), (3, .int (nI q)), (0, .ref t), (1, .int (nI n))]) hx hb dX8_passedBehind_21 hl (k := 1) rfl (rfl) (by decide) rfl (fun ls hl => ?_)
          refine lv_iinc (v := nI (q + 1)) (lv' := [(3, .int (nI (q + 1))), (2, .int (oneTo (thrN laws fogs arms stp n kinds faiths places moved) q + 1)), (0, .ref t), (1, .int (nI n))]) hx hb dX8_passedBehind_24 hl (k := 1) rfl (nI_1 _) (by decide) rfl (fun ls hl => ?_)
          refine lv_goto (tgt := 4) hx hb dX8_passedBehind_27 (by decide) ?_
          have h1 : fa q = faiths q := ga_k efa
          have h2 : pl q = places q := ga_k epl
          have h3 : mo q = moved q := ga_k emo
          have e_1 : oneTo (thrN laws fogs arms stp n kinds faiths places moved) q + 1 = oneTo (thrN laws fogs arms stp n kinds faiths places moved) (q + 1) := by have hc := c_3; rw [h1, h2, h3] at hc; exact (if_neg hc).symm
          rw [e_1] at hl
          exact ih_4 (q + 1) (upd fa q (itG laws fogs arms (kinds q) stp (fa q) (pl q) (mo q) n).1) (upd pl q (itG laws fogs arms (kinds q) stp (fa q) (pl q) (mo q) n).2.1) (upd mo q (itG laws fogs arms (kinds q) stp (fa q) (pl q) (mo q) n).2.2) (by omega) (by omega) (by rw [h1, h2, h3]; exact ga_s efa) (by rw [h1, h2, h3]; exact ga_s epl) (by rw [h1, h2, h3]; exact ga_s emo) _ _ hw _ (lv_sub hl [0, 1, 2, 3] rfl)
  exact lp_4_0 (cnt + 1) 0 faiths places moved (by omega) (by omega) (ga_0 _ _) (ga_0 _ _) (ga_0 _ _) _ _ hw _ (lv_sub hl [0, 1, 2, 3] rfl)
