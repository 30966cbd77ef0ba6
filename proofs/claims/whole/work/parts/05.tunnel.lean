/-! the pure words of a goer's step -/
def kdf (k0 k1 k2 k3 k4 k5 : Nat) : Nat → Option Nat := fun j => if j = 0 then some k0 else if j = 1 then some k1 else if j = 2 then some k2 else if j = 3 then some k3 else if j = 4 then some k4 else if j = 5 then some k5 else none
def isK (x : Int32) : Prop := x = 0 ∨ x = 1 ∨ x = 2 ∨ x = 3 ∨ x = 4 ∨ x = 5
def sightF (k fog arms hum : Int32) : Int32 := if k = 1 then 8 + arms - fog + 4 else if k = 2 then 8 + arms - fog - 2 else if k = 3 then 8 + arms - fog + 4 - fog / 2 else if k = 4 then 8 + arms - fog - 2 + hum else if k = 5 then hum * 2 else 8 + arms - fog
def keenF (k arms hum : Int32) : Int32 := if k = 1 then 3 + arms else if k = 2 then 3 * 2 else if k = 3 then 3 + arms - 1 else if k = 4 then 3 * 2 + 2 else if k = 5 then 3 + hum else 3
def fearsF (k fog : Int32) : Int32 := if k = 1 then 2 - 3 else if k = 2 then 2 + 1 else if k = 3 then 2 - 3 + fog else if k = 4 then (2 + 1) * 2 else if k = 5 then 2 + 3 else 2
def paceF (k step sees : Int32) : Int32 := if k = 1 then 1 + 2 else if k = 3 then 1 + 2 - 1 else if k = 4 then (if step - step / 2 * 2 = 0 then 1 else 0) else if k = 5 then (if sees = 0 then 1 + 0 else 1 + 1) else 1
def thrF (p : Int32) : Int32 := if p < 12 then 0 else 1
def seesF (kd fog ar hum pl : Int32) : Int32 := if sightF kd fog ar hum < 12 - pl then 0 else 1
def hF (v : Int32) : Int32 := mmax32 0 (mmin32 99 v)
def vF (kd fog ar hum fa pl : Int32) : Int32 := if seesF kd fog ar hum pl = 0 then hF (fa - fearsF kd fog) else hF (fa + keenF kd ar hum)
def vM (kd fog ar hum pl mo : Int32) : Int32 := if seesF kd fog ar hum pl = 0 then mo else mmin32 9999 (mo + 1)
def vD (dr lo fa : Int32) : Int32 := if dr ≤ fa then (if fa ≤ lo then 1 else 2) else 3
def vP (kd step sees dr lo fa pl : Int32) : Int32 := if dr ≤ fa then (if fa ≤ lo then mmin32 12 (pl + paceF kd step sees) else pl) else mmax32 0 (pl - 1)
def aG (th : Int32) (f : Nat → Int32) (k : Nat) (v : Int32) : Nat → Int32 := if th = 0 then upd f k v else f
theorem upd_id (f : Nat → Int32) (k : Nat) : upd f k (f k) = f := by
  funext j
  unfold upd
  by_cases h : j = k
  · simp [h]
  · simp [h]
theorem nar_z {v : Int32} (h : v = 0 ∨ v = 1) : narrow .boolean (.int v) = .int v := by rcases h with rfl | rfl <;> rfl
theorem thr_01 (p : Int32) : thrF p = 0 ∨ thrF p = 1 := by unfold thrF; split; exact Or.inl rfl; exact Or.inr rfl
theorem sees_01 (a b c d e : Int32) : seesF a b c d e = 0 ∨ seesF a b c d e = 1 := by unfold seesF; split; exact Or.inl rfl; exact Or.inr rfl
/-- the new faith, place, moved and deed of one, in a step -/
def n1F (kd fog ar hum fa pl : Int32) : Int32 := if thrF pl = 0 then vF kd fog ar hum fa pl else fa
def n1M (kd fog ar hum pl mo : Int32) : Int32 := if thrF pl = 0 then vM kd fog ar hum pl mo else mo
def n1P (kd fog ar hum step dr lo fa pl : Int32) : Int32 := if thrF pl = 0 then vP kd step (seesF kd fog ar hum pl) dr lo (vF kd fog ar hum fa pl) pl else pl
def n1D (kd fog ar hum dr lo fa pl : Int32) : Int32 := if thrF pl = 0 then vD dr lo (vF kd fog ar hum fa pl) else 0
/-- all of them, up to the j-th -/
def goF (laws fogs arms : Nat → Int32) (st : Nat) (kinds faiths places : Nat → Int32) (j : Nat) : Nat → Int32 := fun i => if i < j then n1F (kinds i) (fogs (st % 6)) (arms (st % 6)) (laws 0) (faiths i) (places i) else faiths i
def goP (laws fogs arms : Nat → Int32) (st : Nat) (kinds faiths places : Nat → Int32) (j : Nat) : Nat → Int32 := fun i => if i < j then n1P (kinds i) (fogs (st % 6)) (arms (st % 6)) (laws 0) (nI st) (laws 1) (laws 2) (faiths i) (places i) else places i
def goM (laws fogs arms : Nat → Int32) (st : Nat) (kinds places moved : Nat → Int32) (j : Nat) : Nat → Int32 := fun i => if i < j then n1M (kinds i) (fogs (st % 6)) (arms (st % 6)) (laws 0) (places i) (moved i) else moved i
theorem goF_0 (laws fogs arms : Nat → Int32) (st : Nat) (kinds faiths places : Nat → Int32) : faiths = goF laws fogs arms st kinds faiths places 0 := by funext i; simp [goF]
theorem goP_0 (laws fogs arms : Nat → Int32) (st : Nat) (kinds faiths places : Nat → Int32) : places = goP laws fogs arms st kinds faiths places 0 := by funext i; simp [goP]
theorem goM_0 (laws fogs arms : Nat → Int32) (st : Nat) (kinds places moved : Nat → Int32) : moved = goM laws fogs arms st kinds places moved 0 := by funext i; simp [goM]
theorem go_up {th v : Int32} {f f0 n : Nat → Int32} {k : Nat} (hf : f = fun i => if i < k then n i else f0 i) (hn : n k = if th = 0 then v else f0 k) : aG th f k v = fun i => if i < k + 1 then n i else f0 i := by
  subst hf
  funext i
  unfold aG
  by_cases hth : th = 0
  · rw [if_pos hth]
    rw [if_pos hth] at hn
    by_cases hi : i = k
    · subst hi
      rw [pk_us, if_pos (Nat.lt_succ_self i), hn]
    · rw [pk_un hi]
      by_cases hlt : i < k
      · simp [hlt, Nat.lt_succ_of_lt hlt]
      · have : ¬ i < k + 1 := by omega
        simp [hlt, this]
  · rw [if_neg hth]
    rw [if_neg hth] at hn
    by_cases hi : i = k
    · subst hi
      simp [hn]
    · by_cases hlt : i < k
      · simp [hlt, Nat.lt_succ_of_lt hlt]
      · have : ¬ i < k + 1 := by omega
        simp [hlt, this]
theorem go_k {n f0 : Nat → Int32} (k : Nat) : (fun i => if i < k then n i else f0 i) k = f0 k := by simp
theorem goF_s {laws fogs arms : Nat → Int32} {st : Nat} {kinds faiths places fa pl : Nat → Int32} {k : Nat} (ef : fa = goF laws fogs arms st kinds faiths places k) (ep : pl = goP laws fogs arms st kinds faiths places k) : aG (thrF (pl k)) fa k (vF (kinds k) (fogs (st % 6)) (arms (st % 6)) (laws 0) (fa k) (pl k)) = goF laws fogs arms st kinds faiths places (k + 1) := by
  have h1 : fa k = faiths k := by rw [ef]; simp [goF]
  have h2 : pl k = places k := by rw [ep]; simp [goP]
  rw [h1, h2]
  exact go_up ef rfl
theorem goP_s {laws fogs arms : Nat → Int32} {st : Nat} {kinds faiths places fa pl : Nat → Int32} {k : Nat} (ef : fa = goF laws fogs arms st kinds faiths places k) (ep : pl = goP laws fogs arms st kinds faiths places k) : aG (thrF (pl k)) pl k (vP (kinds k) (nI st) (seesF (kinds k) (fogs (st % 6)) (arms (st % 6)) (laws 0) (pl k)) (laws 1) (laws 2) (vF (kinds k) (fogs (st % 6)) (arms (st % 6)) (laws 0) (fa k) (pl k)) (pl k)) = goP laws fogs arms st kinds faiths places (k + 1) := by
  have h1 : fa k = faiths k := by rw [ef]; simp [goF]
  have h2 : pl k = places k := by rw [ep]; simp [goP]
  rw [h1, h2]
  exact go_up ep rfl
theorem goM_s {laws fogs arms : Nat → Int32} {st : Nat} {kinds faiths places moved pl mo : Nat → Int32} {k : Nat} (ep : pl = goP laws fogs arms st kinds faiths places k) (em : mo = goM laws fogs arms st kinds places moved k) : aG (thrF (pl k)) mo k (vM (kinds k) (fogs (st % 6)) (arms (st % 6)) (laws 0) (pl k) (mo k)) = goM laws fogs arms st kinds places moved (k + 1) := by
  have h1 : mo k = moved k := by rw [em]; simp [goM]
  have h2 : pl k = places k := by rw [ep]; simp [goP]
  rw [h1, h2]
  exact go_up em rfl


def f_X8_has (cnt : Nat) (x : Int32) : Int32 := if x < 0 then 0 else (if (nI cnt) ≤ x then 0 else 1)
abbrev rmX8_has : Room := { frames := 0, cells := 0, slots := 0, locals := 0 }
set_option maxHeartbeats 4000000 in
set_option maxRecDepth 100000 in
theorem c_X8_has (l : Launch) (g : GG) (t : Nat) (tl : Nat) (tf : Nat) (ta : Nat) (tk : Nat) (tg : Nat) (tp : Nat) (tm : Nat) (cnt : Nat) (stp : Nat) (z : Int32) (ak : Nat) (x : Int32) : mt l g yX8_has wsX8_has rmX8_has [.ref t, .int x] [cob t 8 [.ref ak, .ref tl, .ref tf, .ref ta, .ref tk, .ref tg, .ref tp, .ref tm, .int (nI cnt), .int (nI stp), .int z]] (some (.int (f_X8_has cnt x))) [cob t 8 [.ref ak, .ref tl, .ref tf, .ref ta, .ref tk, .ref tg, .ref tp, .ref tm, .int (nI cnt), .int (nI stp), .int z]] := by
  refine mt.of (cc := cX8_has) (nL := 2) (ret := (some .boolean)) (own := RX8) (by decide +kernel) rfl rfl rfl (Nat.le_of_ble_eq_true rfl) (fun p e s m below meth c hf hr hlk _ hk hst hw ls hl => ?_)
  have hx := hf.1
  have hb := hf.2.1
  have hts := hf.2.2.2.2
  have hl : lv_has ls 2 [(0, .ref t), (1, .int x)] := hl
  have hinX8 : ∀ w ∈ u_ws RX8 TX8 11, w ∈ wsX8_has := fun w h => List.mem_cons_of_mem _ (List.mem_append_right _ h)
  have w_0 : Cond.fieldLink RX8 47 "LightMan$Tunnel" "count" "I" ∈ wsX8_has := List.mem_of_getElem? (i := 1) rfl
  refine lv_iload_n hx hb dX8_has_0 rfl (lv_at hl 1 rfl) ?_
  refine lv_if_lt (tgt := 16) hx hb dX8_has_1 (by decide) (fun c_1 => ?_) (fun c_1 => ?_)
  · refine lv_iconst (v := 0) hx hb dX8_has_16 (by decide) ?_
    exact re_z hf hr hlk hw (rfl) (by simp only [f_X8_has, if_pos c_1]) (rfl) dX8_has_17
  · refine lv_iload_n hx hb dX8_has_4 rfl (lv_at hl 1 rfl) ?_
    refine lv_aload_n hx hb dX8_has_5 rfl (lv_at hl 0 rfl) ?_
    refine rg hf hk hw hinX8 0 rfl rfl 8 (by decide) w_0 rfl dX8_has_6 ?_
    refine lv_icmp_ge (tgt := 16) hx hb dX8_has_9 (by decide) (fun c_2 => ?_) (fun c_2 => ?_)
    · refine lv_iconst (v := 0) hx hb dX8_has_16 (by decide) ?_
      exact re_z hf hr hlk hw (rfl) (by simp only [f_X8_has, if_neg c_1, if_pos c_2]) (rfl) dX8_has_17
    · refine lv_iconst (v := 1) hx hb dX8_has_12 (by decide) ?_
      refine lv_goto (tgt := 17) hx hb dX8_has_13 (by decide) ?_
      exact re_z hf hr hlk hw (rfl) (by simp only [f_X8_has, if_neg c_1, if_neg c_2]) (rfl) dX8_has_17

abbrev rmX8_isThrough : Room := { frames := 0, cells := 0, slots := 0, locals := 0 }
set_option maxHeartbeats 4000000 in
set_option maxRecDepth 100000 in
theorem c_X8_isThrough (l : Launch) (g : GG) (t : Nat) (tl : Nat) (tf : Nat) (ta : Nat) (tk : Nat) (tg : Nat) (tp : Nat) (tm : Nat) (places : Nat → Int32) (cnt : Nat) (stp : Nat) (z : Int32) (ak : Nat) (k : Nat) (hk8 : k < 8) : mt l g yX8_isThrough wsX8_isThrough rmX8_isThrough [.ref t, .int (nI k)] [cob t 8 [.ref ak, .ref tl, .ref tf, .ref ta, .ref tk, .ref tg, .ref tp, .ref tm, .int (nI cnt), .int (nI stp), .int z], cin g tp 8 places] (some (.int (thrF (places k)))) [cob t 8 [.ref ak, .ref tl, .ref tf, .ref ta, .ref tk, .ref tg, .ref tp, .ref tm, .int (nI cnt), .int (nI stp), .int z], cin g tp 8 places] := by
  refine mt.of (cc := cX8_isThrough) (nL := 2) (ret := (some .boolean)) (own := RX8) (by decide +kernel) rfl rfl rfl (Nat.le_of_ble_eq_true rfl) (fun p e s m below meth c hf hr hlk _ hk hst hw ls hl => ?_)
  have hx := hf.1
  have hb := hf.2.1
  have hts := hf.2.2.2.2
  have hl : lv_has ls 2 [(0, .ref t), (1, .int (nI k))] := hl
  have hinX8 : ∀ w ∈ u_ws RX8 TX8 11, w ∈ wsX8_isThrough := fun w h => List.mem_cons_of_mem _ (List.mem_append_right _ h)
  have w_0 : Cond.fieldLink RX8 27 "LightMan$Tunnel" "places" "[I" ∈ wsX8_isThrough := List.mem_of_getElem? (i := 1) rfl
  refine lv_aload_n hx hb dX8_isThrough_0 rfl (lv_at hl 0 rfl) ?_
  refine rg hf hk hw hinX8 0 rfl rfl 6 (by decide) w_0 rfl dX8_isThrough_1 ?_
  refine lv_iload_n hx hb dX8_isThrough_4 rfl (lv_at hl 1 rfl) ?_
  refine rij hf hk hw 1 rfl (j := k) (vp_in_nI (by omega) (by omega)) (nI_clamp (by omega)) dX8_isThrough_5 ?_
  refine lv_bipush (v := 12) hx hb dX8_isThrough_6 (by decide) ?_
  refine lv_icmp_lt (tgt := 15) hx hb dX8_isThrough_8 (by decide) (fun c_1 => ?_) (fun c_1 => ?_)
  · refine lv_iconst (v := 0) hx hb dX8_isThrough_15 (by decide) ?_
    exact re_z hf hr hlk hw (rfl) (by unfold thrF; rw [if_pos c_1]) (rfl) dX8_isThrough_16
  · refine lv_iconst (v := 1) hx hb dX8_isThrough_11 (by decide) ?_
    refine lv_goto (tgt := 16) hx hb dX8_isThrough_12 (by decide) ?_
    exact re_z hf hr hlk hw (rfl) (by unfold thrF; rw [if_neg c_1]) (rfl) dX8_isThrough_16
theorem hdS_X10_restOf : yX10_restOf.cls ≠ "java/lang/invoke/MethodHandle" ∧ yX10_restOf.cls ≠ "java/lang/invoke/VarHandle" ∧ (parseMethodDescriptor yX10_restOf.desc).map (fun d => d.parameters.length) = some 1 := by decide +kernel
theorem hdV_X4_sight : yX4_sight.cls = RX4 ∧ yX4_sight.cls ≠ "java/lang/invoke/MethodHandle" ∧ yX4_sight.cls ≠ "java/lang/invoke/VarHandle" ∧ (parseMethodDescriptor yX4_sight.desc).map (fun d => d.parameters.length) = some 3 := by decide +kernel
theorem hdU_LightMan_Kind_sight : "LightMan$Kind" ≠ "java/lang/invoke/MethodHandle" ∧ "LightMan$Kind" ≠ "java/lang/invoke/VarHandle" ∧ (parseMethodDescriptor (⟨"LightMan$Kind", "sight", "(III)I"⟩ : MethodName).desc).map (fun d => d.parameters.length) = some 3 := by decide +kernel
abbrev rmX8_sees : Room := { frames := 3, cells := 0, slots := 0, locals := 69 }
set_option maxHeartbeats 4000000 in
set_option maxRecDepth 100000 in
theorem c_X8_sees (l : Launch) (g : GG) (t : Nat) (tl : Nat) (tf : Nat) (ta : Nat) (tk : Nat) (tg : Nat) (tp : Nat) (tm : Nat) (laws : Nat → Int32) (fogs : Nat → Int32) (arms : Nat → Int32) (kinds : Nat → Int32) (faiths : Nat → Int32) (places : Nat → Int32) (moved : Nat → Int32) (cnt : Nat) (stp : Nat) (z : Int32) (ak : Nat) (k0 : Nat) (k1 : Nat) (k2 : Nat) (k3 : Nat) (k4 : Nat) (k5 : Nat) (k : Nat) (st : Nat) (hk8 : k < 8) (hsp : st < 2 ^ 31) (hkd : isK (kinds k)) : mt l g yX8_sees wsX8_sees rmX8_sees [.ref t, .int (nI k), .int (nI st)] [cob t 8 [.ref ak, .ref tl, .ref tf, .ref ta, .ref tk, .ref tg, .ref tp, .ref tm, .int (nI cnt), .int (nI stp), .int z], cin g tl 4 laws, cin g tf 6 fogs, cin g ta 6 arms, cin g tk 8 kinds, cin g tg 8 faiths, cin g tp 8 places, cin g tm 8 moved, ckd g ak 6 (kdf k0 k1 k2 k3 k4 k5), cob k0 4 [], cob k1 2 [], cob k2 5 [], cob k3 6 [], cob k4 9 [], cob k5 1 []] (some (.int (seesF (kinds k) (fogs (st % 6)) (arms (st % 6)) (laws 0) (places k)))) [cob t 8 [.ref ak, .ref tl, .ref tf, .ref ta, .ref tk, .ref tg, .ref tp, .ref tm, .int (nI cnt), .int (nI stp), .int z], cin g tl 4 laws, cin g tf 6 fogs, cin g ta 6 arms, cin g tk 8 kinds, cin g tg 8 faiths, cin g tp 8 places, cin g tm 8 moved, ckd g ak 6 (kdf k0 k1 k2 k3 k4 k5), cob k0 4 [], cob k1 2 [], cob k2 5 [], cob k3 6 [], cob k4 9 [], cob k5 1 []] := by
  refine mt.of (cc := cX8_sees) (nL := 4) (ret := (some .boolean)) (own := RX8) (by decide +kernel) rfl rfl rfl (Nat.le_of_ble_eq_true rfl) (fun p e s m below meth c hf hr hlk _ hk hst hw ls hl => ?_)
  have hx := hf.1
  have hb := hf.2.1
  have hts := hf.2.2.2.2
  have hl : lv_has ls 4 [(0, .ref t), (1, .int (nI k)), (2, .int (nI st))] := hl
  have h6 : st % 6 < 6 := Nat.mod_lt _ (by decide)
  have w_0 : Cond.initialized RX10 ∈ wsX8_sees := List.mem_of_getElem? (i := 8) rfl
  have w_1 : Cond.static yX10_restOf ∈ wsX8_sees := List.mem_of_getElem? (i := 7) rfl
  have hinX8 : ∀ w ∈ u_ws RX8 TX8 11, w ∈ wsX8_sees := fun w h => List.mem_cons_of_mem _ (List.mem_append_right _ h)
  have w_2 : Cond.fieldLink RX8 27 "LightMan$Tunnel" "places" "[I" ∈ wsX8_sees := List.mem_of_getElem? (i := 1) rfl
  have w_3 : Cond.fieldLink RX8 37 "LightMan$Tunnel" "allKinds" "[LLightMan$Kind;" ∈ wsX8_sees := List.mem_of_getElem? (i := 2) rfl
  have w_4 : Cond.fieldLink RX8 21 "LightMan$Tunnel" "kinds" "[I" ∈ wsX8_sees := List.mem_of_getElem? (i := 3) rfl
  have w_5 : Cond.fieldLink RX8 15 "LightMan$Tunnel" "fogs" "[I" ∈ wsX8_sees := List.mem_of_getElem? (i := 4) rfl
  have w_6 : Cond.fieldLink RX8 18 "LightMan$Tunnel" "arms" "[I" ∈ wsX8_sees := List.mem_of_getElem? (i := 5) rfl
  have w_7 : Cond.fieldLink RX8 9 "LightMan$Tunnel" "laws" "[I" ∈ wsX8_sees := List.mem_of_getElem? (i := 6) rfl
  have w_8 : Cond.code yX4_sight cX4_sight 4 (some .int) ∈ wsX8_sees := List.mem_of_getElem? (i := 21) rfl
  refine lv_iload_n hx hb dX8_sees_0 rfl (lv_at hl 2 rfl) ?_
  refine mcN hf hk hst hw (c_X10_restOf l g st (by omega)) ⟨va_cnB 1 hts gX8_sees_X10_restOf_n57 rfl rfl rfl hk.2.1.1 (hts _ w_0) hdS_X10_restOf ⟨Nat.le_of_ble_eq_true rfl, Nat.le_of_ble_eq_true rfl⟩, hts _ w_1, trivial⟩ [] rfl rfl rfl hl.1 rfl (Nat.le_of_ble_eq_true rfl) dX8_sees_1 ⟨Nat.zero_le _, Nat.zero_le _⟩ (W' := [cob t 8 [.ref ak, .ref tl, .ref tf, .ref ta, .ref tk, .ref tg, .ref tp, .ref tm, .int (nI cnt), .int (nI stp), .int z], cin g tl 4 laws, cin g tf 6 fogs, cin g ta 6 arms, cin g tk 8 kinds, cin g tg 8 faiths, cin g tp 8 places, cin g tm 8 moved, ckd g ak 6 (kdf k0 k1 k2 k3 k4 k5), cob k0 4 [], cob k1 2 [], cob k2 5 [], cob k3 6 [], cob k4 9 [], cob k5 1 []]) rfl (fun H locs hw => ?_)
  refine lv_istore_n (lv' := [(3, .int (nI (st % 6))), (0, .ref t), (1, .int (nI k)), (2, .int (nI st))]) hx hb dX8_sees_4 rfl hl (by decide) rfl (fun ls hl => ?_)
  refine lv_bipush (v := 12) hx hb dX8_sees_5 (by decide) ?_
  refine lv_aload_n hx hb dX8_sees_7 rfl (lv_at hl 1 rfl) ?_
  refine rg hf hk hw hinX8 0 rfl rfl 6 (by decide) w_2 rfl dX8_sees_8 ?_
  refine lv_iload_n hx hb dX8_sees_11 rfl (lv_at hl 2 rfl) ?_
  refine rij hf hk hw 6 rfl (j := k) (vp_in_nI (by omega) (by omega)) (nI_clamp (by omega)) dX8_sees_12 ?_
  refine lv_isub hx hb dX8_sees_13 ?_
  refine lv_aload_n hx hb dX8_sees_14 rfl (lv_at hl 1 rfl) ?_
  refine rg hf hk hw hinX8 0 rfl rfl 0 (by decide) w_3 rfl dX8_sees_15 ?_
  refine lv_aload_n hx hb dX8_sees_18 rfl (lv_at hl 1 rfl) ?_
  refine rg hf hk hw hinX8 0 rfl rfl 4 (by decide) w_4 rfl dX8_sees_19 ?_
  refine lv_iload_n hx hb dX8_sees_22 rfl (lv_at hl 2 rfl) ?_
  refine rij hf hk hw 4 rfl (j := k) (vp_in_nI (by omega) (by omega)) (nI_clamp (by omega)) dX8_sees_23 ?_
  rcases hkd with e_1 | e_1 | e_1 | e_1 | e_1 | e_1
  · refine rkj hf hk hw 8 rfl (j := 0) (r := some k0) (by rw [e_1]; exact vp_in_nI (n := 0) (by omega) (by omega)) (by rw [e_1]; rfl) rfl dX8_sees_24 ?_
    refine lv_aload_n hx hb dX8_sees_25 rfl (lv_at hl 1 rfl) ?_
    refine rg hf hk hw hinX8 0 rfl rfl 2 (by decide) w_5 rfl dX8_sees_26 ?_
    refine lv_iload_n hx hb dX8_sees_29 rfl (lv_at hl 0 rfl) ?_
    refine rij hf hk hw 2 rfl (j := st % 6) (vp_in_nI (by omega) (by omega)) (nI_clamp (by omega)) dX8_sees_30 ?_
    refine lv_aload_n hx hb dX8_sees_31 rfl (lv_at hl 1 rfl) ?_
    refine rg hf hk hw hinX8 0 rfl rfl 3 (by decide) w_6 rfl dX8_sees_32 ?_
    refine lv_iload_n hx hb dX8_sees_35 rfl (lv_at hl 0 rfl) ?_
    refine rij hf hk hw 3 rfl (j := st % 6) (vp_in_nI (by omega) (by omega)) (nI_clamp (by omega)) dX8_sees_36 ?_
    refine lv_aload_n hx hb dX8_sees_37 rfl (lv_at hl 1 rfl) ?_
    refine rg hf hk hw hinX8 0 rfl rfl 1 (by decide) w_7 rfl dX8_sees_38 ?_
    refine lv_iconst (v := 0) hx hb dX8_sees_41 (by decide) ?_
    refine rij hf hk hw 1 rfl (j := 0) (vp_in_nI (n := 0) (by omega) (by omega)) (rfl) dX8_sees_42 ?_
    refine mcV hf hk hst hw (c_X4_sight l g k0 (fogs (st % 6)) (arms (st % 6)) (laws 0)) (cwV 3 hts gX8_sees_X4_sight rfl rfl rfl hdV_X4_sight ⟨Nat.le_of_ble_eq_true rfl, Nat.le_of_ble_eq_true rfl⟩) [] rfl rfl 9 rfl rfl rfl hl.1 rfl (Nat.le_of_ble_eq_true rfl) dX8_sees_43 ⟨Nat.zero_le _, Nat.zero_le _⟩ (W' := [cob t 8 [.ref ak, .ref tl, .ref tf, .ref ta, .ref tk, .ref tg, .ref tp, .ref tm, .int (nI cnt), .int (nI stp), .int z], cin g tl 4 laws, cin g tf 6 fogs, cin g ta 6 arms, cin g tk 8 kinds, cin g tg 8 faiths, cin g tp 8 places, cin g tm 8 moved, ckd g ak 6 (kdf k0 k1 k2 k3 k4 k5), cob k0 4 [], cob k1 2 [], cob k2 5 [], cob k3 6 [], cob k4 9 [], cob k5 1 []]) rfl (fun H locs hw => ?_)
    refine lv_icmp_gt (tgt := 53) hx hb dX8_sees_46 (by decide) (fun c_2 => ?_) (fun c_2 => ?_)
    · refine lv_iconst (v := 0) hx hb dX8_sees_53 (by decide) ?_
      exact re_z hf hr hlk hw (rfl) (by unfold seesF; rw [e_1]; exact congrArg Value.int (if_pos c_2).symm) (rfl) dX8_sees_54
    · refine lv_iconst (v := 1) hx hb dX8_sees_49 (by decide) ?_
      refine lv_goto (tgt := 54) hx hb dX8_sees_50 (by decide) ?_
      exact re_z hf hr hlk hw (rfl) (by unfold seesF; rw [e_1]; exact congrArg Value.int (if_neg c_2).symm) (rfl) dX8_sees_54
  · refine rkj hf hk hw 8 rfl (j := 1) (r := some k1) (by rw [e_1]; exact vp_in_nI (n := 1) (by omega) (by omega)) (by rw [e_1]; rfl) rfl dX8_sees_24 ?_
    refine lv_aload_n hx hb dX8_sees_25 rfl (lv_at hl 1 rfl) ?_
    refine rg hf hk hw hinX8 0 rfl rfl 2 (by decide) w_5 rfl dX8_sees_26 ?_
    refine lv_iload_n hx hb dX8_sees_29 rfl (lv_at hl 0 rfl) ?_
    refine rij hf hk hw 2 rfl (j := st % 6) (vp_in_nI (by omega) (by omega)) (nI_clamp (by omega)) dX8_sees_30 ?_
    refine lv_aload_n hx hb dX8_sees_31 rfl (lv_at hl 1 rfl) ?_
    refine rg hf hk hw hinX8 0 rfl rfl 3 (by decide) w_6 rfl dX8_sees_32 ?_
    refine lv_iload_n hx hb dX8_sees_35 rfl (lv_at hl 0 rfl) ?_
    refine rij hf hk hw 3 rfl (j := st % 6) (vp_in_nI (by omega) (by omega)) (nI_clamp (by omega)) dX8_sees_36 ?_
    refine lv_aload_n hx hb dX8_sees_37 rfl (lv_at hl 1 rfl) ?_
    refine rg hf hk hw hinX8 0 rfl rfl 1 (by decide) w_7 rfl dX8_sees_38 ?_
    refine lv_iconst (v := 0) hx hb dX8_sees_41 (by decide) ?_
    refine rij hf hk hw 1 rfl (j := 0) (vp_in_nI (n := 0) (by omega) (by omega)) (rfl) dX8_sees_42 ?_
    refine mcU hf hk hst hw (c_X2_sight l g k1 2 RX2 TX2 0 (fogs (st % 6)) (arms (st % 6)) (laws 0) rfl) (va_cwO 3 hts gX8_sees_X2_sight_u61X2 rfl rfl rfl w_8 hdU_LightMan_Kind_sight ⟨Nat.le_of_ble_eq_true rfl, Nat.le_of_ble_eq_true rfl⟩) [10] rfl rfl 10 rfl rfl rfl hl.1 rfl (Nat.le_of_ble_eq_true rfl) dX8_sees_43 ⟨Nat.zero_le _, Nat.zero_le _⟩ (W' := [cob t 8 [.ref ak, .ref tl, .ref tf, .ref ta, .ref tk, .ref tg, .ref tp, .ref tm, .int (nI cnt), .int (nI stp), .int z], cin g tl 4 laws, cin g tf 6 fogs, cin g ta 6 arms, cin g tk 8 kinds, cin g tg 8 faiths, cin g tp 8 places, cin g tm 8 moved, ckd g ak 6 (kdf k0 k1 k2 k3 k4 k5), cob k0 4 [], cob k1 2 [], cob k2 5 [], cob k3 6 [], cob k4 9 [], cob k5 1 []]) rfl (fun H locs hw => ?_)
    refine lv_icmp_gt (tgt := 53) hx hb dX8_sees_46 (by decide) (fun c_3 => ?_) (fun c_3 => ?_)
    · refine lv_iconst (v := 0) hx hb dX8_sees_53 (by decide) ?_
      exact re_z hf hr hlk hw (rfl) (by unfold seesF; rw [e_1]; exact congrArg Value.int (if_pos c_3).symm) (rfl) dX8_sees_54
    · refine lv_iconst (v := 1) hx hb dX8_sees_49 (by decide) ?_
      refine lv_goto (tgt := 54) hx hb dX8_sees_50 (by decide) ?_
      exact re_z hf hr hlk hw (rfl) (by unfold seesF; rw [e_1]; exact congrArg Value.int (if_neg c_3).symm) (rfl) dX8_sees_54
  · refine rkj hf hk hw 8 rfl (j := 2) (r := some k2) (by rw [e_1]; exact vp_in_nI (n := 2) (by omega) (by omega)) (by rw [e_1]; rfl) rfl dX8_sees_24 ?_
    refine lv_aload_n hx hb dX8_sees_25 rfl (lv_at hl 1 rfl) ?_
    refine rg hf hk hw hinX8 0 rfl rfl 2 (by decide) w_5 rfl dX8_sees_26 ?_
    refine lv_iload_n hx hb dX8_sees_29 rfl (lv_at hl 0 rfl) ?_
    refine rij hf hk hw 2 rfl (j := st % 6) (vp_in_nI (by omega) (by omega)) (nI_clamp (by omega)) dX8_sees_30 ?_
    refine lv_aload_n hx hb dX8_sees_31 rfl (lv_at hl 1 rfl) ?_
    refine rg hf hk hw hinX8 0 rfl rfl 3 (by decide) w_6 rfl dX8_sees_32 ?_
    refine lv_iload_n hx hb dX8_sees_35 rfl (lv_at hl 0 rfl) ?_
    refine rij hf hk hw 3 rfl (j := st % 6) (vp_in_nI (by omega) (by omega)) (nI_clamp (by omega)) dX8_sees_36 ?_
    refine lv_aload_n hx hb dX8_sees_37 rfl (lv_at hl 1 rfl) ?_
    refine rg hf hk hw hinX8 0 rfl rfl 1 (by decide) w_7 rfl dX8_sees_38 ?_
    refine lv_iconst (v := 0) hx hb dX8_sees_41 (by decide) ?_
    refine rij hf hk hw 1 rfl (j := 0) (vp_in_nI (n := 0) (by omega) (by omega)) (rfl) dX8_sees_42 ?_
    refine mcU hf hk hst hw (c_X5_sight l g k2 5 RX5 TX5 0 (fogs (st % 6)) (arms (st % 6)) (laws 0) rfl) (va_cwO 3 hts gX8_sees_X5_sight_u61X5 rfl rfl rfl w_8 hdU_LightMan_Kind_sight ⟨Nat.le_of_ble_eq_true rfl, Nat.le_of_ble_eq_true rfl⟩) [11] rfl rfl 11 rfl rfl rfl hl.1 rfl (Nat.le_of_ble_eq_true rfl) dX8_sees_43 ⟨Nat.zero_le _, Nat.zero_le _⟩ (W' := [cob t 8 [.ref ak, .ref tl, .ref tf, .ref ta, .ref tk, .ref tg, .ref tp, .ref tm, .int (nI cnt), .int (nI stp), .int z], cin g tl 4 laws, cin g tf 6 fogs, cin g ta 6 arms, cin g tk 8 kinds, cin g tg 8 faiths, cin g tp 8 places, cin g tm 8 moved, ckd g ak 6 (kdf k0 k1 k2 k3 k4 k5), cob k0 4 [], cob k1 2 [], cob k2 5 [], cob k3 6 [], cob k4 9 [], cob k5 1 []]) rfl (fun H locs hw => ?_)
    refine lv_icmp_gt (tgt := 53) hx hb dX8_sees_46 (by decide) (fun c_4 => ?_) (fun c_4 => ?_)
    · refine lv_iconst (v := 0) hx hb dX8_sees_53 (by decide) ?_
      exact re_z hf hr hlk hw (rfl) (by unfold seesF; rw [e_1]; exact congrArg Value.int (if_pos c_4).symm) (rfl) dX8_sees_54
    · refine lv_iconst (v := 1) hx hb dX8_sees_49 (by decide) ?_
      refine lv_goto (tgt := 54) hx hb dX8_sees_50 (by decide) ?_
      exact re_z hf hr hlk hw (rfl) (by unfold seesF; rw [e_1]; exact congrArg Value.int (if_neg c_4).symm) (rfl) dX8_sees_54
  · refine rkj hf hk hw 8 rfl (j := 3) (r := some k3) (by rw [e_1]; exact vp_in_nI (n := 3) (by omega) (by omega)) (by rw [e_1]; rfl) rfl dX8_sees_24 ?_
    refine lv_aload_n hx hb dX8_sees_25 rfl (lv_at hl 1 rfl) ?_
    refine rg hf hk hw hinX8 0 rfl rfl 2 (by decide) w_5 rfl dX8_sees_26 ?_
    refine lv_iload_n hx hb dX8_sees_29 rfl (lv_at hl 0 rfl) ?_
    refine rij hf hk hw 2 rfl (j := st % 6) (vp_in_nI (by omega) (by omega)) (nI_clamp (by omega)) dX8_sees_30 ?_
    refine lv_aload_n hx hb dX8_sees_31 rfl (lv_at hl 1 rfl) ?_
    refine rg hf hk hw hinX8 0 rfl rfl 3 (by decide) w_6 rfl dX8_sees_32 ?_
    refine lv_iload_n hx hb dX8_sees_35 rfl (lv_at hl 0 rfl) ?_
    refine rij hf hk hw 3 rfl (j := st % 6) (vp_in_nI (by omega) (by omega)) (nI_clamp (by omega)) dX8_sees_36 ?_
    refine lv_aload_n hx hb dX8_sees_37 rfl (lv_at hl 1 rfl) ?_
    refine rg hf hk hw hinX8 0 rfl rfl 1 (by decide) w_7 rfl dX8_sees_38 ?_
    refine lv_iconst (v := 0) hx hb dX8_sees_41 (by decide) ?_
    refine rij hf hk hw 1 rfl (j := 0) (vp_in_nI (n := 0) (by omega) (by omega)) (rfl) dX8_sees_42 ?_
    refine mcU hf hk hst hw (c_X6_sight l g k3 6 RX6 TX6 0 (fogs (st % 6)) (arms (st % 6)) (laws 0) rfl) (va_cwO 3 hts gX8_sees_X6_sight_u61X6 rfl rfl rfl w_8 hdU_LightMan_Kind_sight ⟨Nat.le_of_ble_eq_true rfl, Nat.le_of_ble_eq_true rfl⟩) [12] rfl rfl 12 rfl rfl rfl hl.1 rfl (Nat.le_of_ble_eq_true rfl) dX8_sees_43 ⟨Nat.zero_le _, Nat.zero_le _⟩ (W' := [cob t 8 [.ref ak, .ref tl, .ref tf, .ref ta, .ref tk, .ref tg, .ref tp, .ref tm, .int (nI cnt), .int (nI stp), .int z], cin g tl 4 laws, cin g tf 6 fogs, cin g ta 6 arms, cin g tk 8 kinds, cin g tg 8 faiths, cin g tp 8 places, cin g tm 8 moved, ckd g ak 6 (kdf k0 k1 k2 k3 k4 k5), cob k0 4 [], cob k1 2 [], cob k2 5 [], cob k3 6 [], cob k4 9 [], cob k5 1 []]) rfl (fun H locs hw => ?_)
    refine lv_icmp_gt (tgt := 53) hx hb dX8_sees_46 (by decide) (fun c_5 => ?_) (fun c_5 => ?_)
    · refine lv_iconst (v := 0) hx hb dX8_sees_53 (by decide) ?_
      exact re_z hf hr hlk hw (rfl) (by unfold seesF; rw [e_1]; exact congrArg Value.int (if_pos c_5).symm) (rfl) dX8_sees_54
    · refine lv_iconst (v := 1) hx hb dX8_sees_49 (by decide) ?_
      refine lv_goto (tgt := 54) hx hb dX8_sees_50 (by decide) ?_
      exact re_z hf hr hlk hw (rfl) (by unfold seesF; rw [e_1]; exact congrArg Value.int (if_neg c_5).symm) (rfl) dX8_sees_54
  · refine rkj hf hk hw 8 rfl (j := 4) (r := some k4) (by rw [e_1]; exact vp_in_nI (n := 4) (by omega) (by omega)) (by rw [e_1]; rfl) rfl dX8_sees_24 ?_
    refine lv_aload_n hx hb dX8_sees_25 rfl (lv_at hl 1 rfl) ?_
    refine rg hf hk hw hinX8 0 rfl rfl 2 (by decide) w_5 rfl dX8_sees_26 ?_
    refine lv_iload_n hx hb dX8_sees_29 rfl (lv_at hl 0 rfl) ?_
    refine rij hf hk hw 2 rfl (j := st % 6) (vp_in_nI (by omega) (by omega)) (nI_clamp (by omega)) dX8_sees_30 ?_
    refine lv_aload_n hx hb dX8_sees_31 rfl (lv_at hl 1 rfl) ?_
    refine rg hf hk hw hinX8 0 rfl rfl 3 (by decide) w_6 rfl dX8_sees_32 ?_
    refine lv_iload_n hx hb dX8_sees_35 rfl (lv_at hl 0 rfl) ?_
    refine rij hf hk hw 3 rfl (j := st % 6) (vp_in_nI (by omega) (by omega)) (nI_clamp (by omega)) dX8_sees_36 ?_
    refine lv_aload_n hx hb dX8_sees_37 rfl (lv_at hl 1 rfl) ?_
    refine rg hf hk hw hinX8 0 rfl rfl 1 (by decide) w_7 rfl dX8_sees_38 ?_
    refine lv_iconst (v := 0) hx hb dX8_sees_41 (by decide) ?_
    refine rij hf hk hw 1 rfl (j := 0) (vp_in_nI (n := 0) (by omega) (by omega)) (rfl) dX8_sees_42 ?_
    refine mcU hf hk hst hw (c_X9_sight l g k4 9 RX9 TX9 0 (fogs (st % 6)) (arms (st % 6)) (laws 0) rfl) (va_cwO 3 hts gX8_sees_X9_sight_u61X9 rfl rfl rfl w_8 hdU_LightMan_Kind_sight ⟨Nat.le_of_ble_eq_true rfl, Nat.le_of_ble_eq_true rfl⟩) [13] rfl rfl 13 rfl rfl rfl hl.1 rfl (Nat.le_of_ble_eq_true rfl) dX8_sees_43 ⟨Nat.zero_le _, Nat.zero_le _⟩ (W' := [cob t 8 [.ref ak, .ref tl, .ref tf, .ref ta, .ref tk, .ref tg, .ref tp, .ref tm, .int (nI cnt), .int (nI stp), .int z], cin g tl 4 laws, cin g tf 6 fogs, cin g ta 6 arms, cin g tk 8 kinds, cin g tg 8 faiths, cin g tp 8 places, cin g tm 8 moved, ckd g ak 6 (kdf k0 k1 k2 k3 k4 k5), cob k0 4 [], cob k1 2 [], cob k2 5 [], cob k3 6 [], cob k4 9 [], cob k5 1 []]) rfl (fun H locs hw => ?_)
    refine lv_icmp_gt (tgt := 53) hx hb dX8_sees_46 (by decide) (fun c_6 => ?_) (fun c_6 => ?_)
    · refine lv_iconst (v := 0) hx hb dX8_sees_53 (by decide) ?_
      exact re_z hf hr hlk hw (rfl) (by unfold seesF; rw [e_1]; exact congrArg Value.int (if_pos c_6).symm) (rfl) dX8_sees_54
    · refine lv_iconst (v := 1) hx hb dX8_sees_49 (by decide) ?_
      refine lv_goto (tgt := 54) hx hb dX8_sees_50 (by decide) ?_
      exact re_z hf hr hlk hw (rfl) (by unfold seesF; rw [e_1]; exact congrArg Value.int (if_neg c_6).symm) (rfl) dX8_sees_54
  · refine rkj hf hk hw 8 rfl (j := 5) (r := some k5) (by rw [e_1]; exact vp_in_nI (n := 5) (by omega) (by omega)) (by rw [e_1]; rfl) rfl dX8_sees_24 ?_
    refine lv_aload_n hx hb dX8_sees_25 rfl (lv_at hl 1 rfl) ?_
    refine rg hf hk hw hinX8 0 rfl rfl 2 (by decide) w_5 rfl dX8_sees_26 ?_
    refine lv_iload_n hx hb dX8_sees_29 rfl (lv_at hl 0 rfl) ?_
    refine rij hf hk hw 2 rfl (j := st % 6) (vp_in_nI (by omega) (by omega)) (nI_clamp (by omega)) dX8_sees_30 ?_
    refine lv_aload_n hx hb dX8_sees_31 rfl (lv_at hl 1 rfl) ?_
    refine rg hf hk hw hinX8 0 rfl rfl 3 (by decide) w_6 rfl dX8_sees_32 ?_
    refine lv_iload_n hx hb dX8_sees_35 rfl (lv_at hl 0 rfl) ?_
    refine rij hf hk hw 3 rfl (j := st % 6) (vp_in_nI (by omega) (by omega)) (nI_clamp (by omega)) dX8_sees_36 ?_
    refine lv_aload_n hx hb dX8_sees_37 rfl (lv_at hl 1 rfl) ?_
    refine rg hf hk hw hinX8 0 rfl rfl 1 (by decide) w_7 rfl dX8_sees_38 ?_
    refine lv_iconst (v := 0) hx hb dX8_sees_41 (by decide) ?_
    refine rij hf hk hw 1 rfl (j := 0) (vp_in_nI (n := 0) (by omega) (by omega)) (rfl) dX8_sees_42 ?_
    refine mcU hf hk hst hw (c_X1_sight l g k5 (fogs (st % 6)) (arms (st % 6)) (laws 0)) (va_cwO 3 hts gX8_sees_X1_sight_u61X1 rfl rfl rfl w_8 hdU_LightMan_Kind_sight ⟨Nat.le_of_ble_eq_true rfl, Nat.le_of_ble_eq_true rfl⟩) [] rfl rfl 14 rfl rfl rfl hl.1 rfl (Nat.le_of_ble_eq_true rfl) dX8_sees_43 ⟨Nat.zero_le _, Nat.zero_le _⟩ (W' := [cob t 8 [.ref ak, .ref tl, .ref tf, .ref ta, .ref tk, .ref tg, .ref tp, .ref tm, .int (nI cnt), .int (nI stp), .int z], cin g tl 4 laws, cin g tf 6 fogs, cin g ta 6 arms, cin g tk 8 kinds, cin g tg 8 faiths, cin g tp 8 places, cin g tm 8 moved, ckd g ak 6 (kdf k0 k1 k2 k3 k4 k5), cob k0 4 [], cob k1 2 [], cob k2 5 [], cob k3 6 [], cob k4 9 [], cob k5 1 []]) rfl (fun H locs hw => ?_)
    refine lv_icmp_gt (tgt := 53) hx hb dX8_sees_46 (by decide) (fun c_7 => ?_) (fun c_7 => ?_)
    · refine lv_iconst (v := 0) hx hb dX8_sees_53 (by decide) ?_
      exact re_z hf hr hlk hw (rfl) (by unfold seesF; rw [e_1]; exact congrArg Value.int (if_pos c_7).symm) (rfl) dX8_sees_54
    · refine lv_iconst (v := 1) hx hb dX8_sees_49 (by decide) ?_
      refine lv_goto (tgt := 54) hx hb dX8_sees_50 (by decide) ?_
      exact re_z hf hr hlk hw (rfl) (by unfold seesF; rw [e_1]; exact congrArg Value.int (if_neg c_7).symm) (rfl) dX8_sees_54
theorem hdV_X8_isThrough : yX8_isThrough.cls = RX8 ∧ yX8_isThrough.cls ≠ "java/lang/invoke/MethodHandle" ∧ yX8_isThrough.cls ≠ "java/lang/invoke/VarHandle" ∧ (parseMethodDescriptor yX8_isThrough.desc).map (fun d => d.parameters.length) = some 1 := by decide +kernel
theorem hdV_X8_sees : yX8_sees.cls = RX8 ∧ yX8_sees.cls ≠ "java/lang/invoke/MethodHandle" ∧ yX8_sees.cls ≠ "java/lang/invoke/VarHandle" ∧ (parseMethodDescriptor yX8_sees.desc).map (fun d => d.parameters.length) = some 2 := by decide +kernel
theorem hdV_X4_fears : yX4_fears.cls = RX4 ∧ yX4_fears.cls ≠ "java/lang/invoke/MethodHandle" ∧ yX4_fears.cls ≠ "java/lang/invoke/VarHandle" ∧ (parseMethodDescriptor yX4_fears.desc).map (fun d => d.parameters.length) = some 1 := by decide +kernel
theorem hdS_X10_heldFaith : yX10_heldFaith.cls ≠ "java/lang/invoke/MethodHandle" ∧ yX10_heldFaith.cls ≠ "java/lang/invoke/VarHandle" ∧ (parseMethodDescriptor yX10_heldFaith.desc).map (fun d => d.parameters.length) = some 1 := by decide +kernel
theorem hdV_X4_pace : yX4_pace.cls = RX4 ∧ yX4_pace.cls ≠ "java/lang/invoke/MethodHandle" ∧ yX4_pace.cls ≠ "java/lang/invoke/VarHandle" ∧ (parseMethodDescriptor yX4_pace.desc).map (fun d => d.parameters.length) = some 2 := by decide +kernel
theorem hdV_X4_keen : yX4_keen.cls = RX4 ∧ yX4_keen.cls ≠ "java/lang/invoke/MethodHandle" ∧ yX4_keen.cls ≠ "java/lang/invoke/VarHandle" ∧ (parseMethodDescriptor yX4_keen.desc).map (fun d => d.parameters.length) = some 2 := by decide +kernel
theorem hdU_LightMan_Kind_fears : "LightMan$Kind" ≠ "java/lang/invoke/MethodHandle" ∧ "LightMan$Kind" ≠ "java/lang/invoke/VarHandle" ∧ (parseMethodDescriptor (⟨"LightMan$Kind", "fears", "(I)I"⟩ : MethodName).desc).map (fun d => d.parameters.length) = some 1 := by decide +kernel
theorem hdU_LightMan_Kind_pace : "LightMan$Kind" ≠ "java/lang/invoke/MethodHandle" ∧ "LightMan$Kind" ≠ "java/lang/invoke/VarHandle" ∧ (parseMethodDescriptor (⟨"LightMan$Kind", "pace", "(IZ)I"⟩ : MethodName).desc).map (fun d => d.parameters.length) = some 2 := by decide +kernel
theorem hdU_LightMan_Kind_keen : "LightMan$Kind" ≠ "java/lang/invoke/MethodHandle" ∧ "LightMan$Kind" ≠ "java/lang/invoke/VarHandle" ∧ (parseMethodDescriptor (⟨"LightMan$Kind", "keen", "(II)I"⟩ : MethodName).desc).map (fun d => d.parameters.length) = some 2 := by decide +kernel
abbrev rmX8_advance : Room := { frames := 4, cells := 0, slots := 0, locals := 92 }
set_option maxHeartbeats 4000000 in
set_option maxRecDepth 100000 in
theorem c_X8_advance (l : Launch) (g : GG) (t : Nat) (tl : Nat) (tf : Nat) (ta : Nat) (tk : Nat) (tg : Nat) (tp : Nat) (tm : Nat) (laws : Nat → Int32) (fogs : Nat → Int32) (arms : Nat → Int32) (kinds : Nat → Int32) (faiths : Nat → Int32) (places : Nat → Int32) (moved : Nat → Int32) (cnt : Nat) (stp : Nat) (z : Int32) (ak : Nat) (k0 : Nat) (k1 : Nat) (k2 : Nat) (k3 : Nat) (k4 : Nat) (k5 : Nat) (k : Nat) (st : Nat) (hk8 : k < 8) (hsp : st < 2 ^ 31) (hkd : isK (kinds k)) : mt l g yX8_advance wsX8_advance rmX8_advance [.ref t, .int (nI k), .int (nI st)] [cob t 8 [.ref ak, .ref tl, .ref tf, .ref ta, .ref tk, .ref tg, .ref tp, .ref tm, .int (nI cnt), .int (nI stp), .int z], cin g tl 4 laws, cin g tf 6 fogs, cin g ta 6 arms, cin g tk 8 kinds, cin g tg 8 faiths, cin g tp 8 places, cin g tm 8 moved, ckd g ak 6 (kdf k0 k1 k2 k3 k4 k5), cob k0 4 [], cob k1 2 [], cob k2 5 [], cob k3 6 [], cob k4 9 [], cob k5 1 []] (some (.int (n1D (kinds k) (fogs (st % 6)) (arms (st % 6)) (laws 0) (laws 1) (laws 2) (faiths k) (places k)))) [cob t 8 [.ref ak, .ref tl, .ref tf, .ref ta, .ref tk, .ref tg, .ref tp, .ref tm, .int (nI cnt), .int (nI stp), .int z], cin g tl 4 laws, cin g tf 6 fogs, cin g ta 6 arms, cin g tk 8 kinds, cin g tg 8 (aG (thrF (places k)) faiths k (vF (kinds k) (fogs (st % 6)) (arms (st % 6)) (laws 0) (faiths k) (places k))), cin g tp 8 (aG (thrF (places k)) places k (vP (kinds k) (nI st) (seesF (kinds k) (fogs (st % 6)) (arms (st % 6)) (laws 0) (places k)) (laws 1) (laws 2) (vF (kinds k) (fogs (st % 6)) (arms (st % 6)) (laws 0) (faiths k) (places k)) (places k))), cin g tm 8 (aG (thrF (places k)) moved k (vM (kinds k) (fogs (st % 6)) (arms (st % 6)) (laws 0) (places k) (moved k))), ckd g ak 6 (kdf k0 k1 k2 k3 k4 k5), cob k0 4 [], cob k1 2 [], cob k2 5 [], cob k3 6 [], cob k4 9 [], cob k5 1 []] := by
  refine mt.of (cc := cX8_advance) (nL := 6) (ret := (some .int)) (own := RX8) (by decide +kernel) rfl rfl rfl (Nat.le_of_ble_eq_true rfl) (fun p e s m below meth c hf hr hlk _ hk hst hw ls hl => ?_)
  have hx := hf.1
  have hb := hf.2.1
  have hts := hf.2.2.2.2
  have hl : lv_has ls 6 [(0, .ref t), (1, .int (nI k)), (2, .int (nI st))] := hl
  have hkd0 := hkd
  have h6 : st % 6 < 6 := Nat.mod_lt _ (by decide)
  have hinX8 : ∀ w ∈ u_ws RX8 TX8 11, w ∈ wsX8_advance := fun w h => List.mem_cons_of_mem _ (List.mem_append_right _ h)
  have w_0 : Cond.fieldLink RX8 37 "LightMan$Tunnel" "allKinds" "[LLightMan$Kind;" ∈ wsX8_advance := List.mem_of_getElem? (i := 1) rfl
  have w_1 : Cond.fieldLink RX8 21 "LightMan$Tunnel" "kinds" "[I" ∈ wsX8_advance := List.mem_of_getElem? (i := 2) rfl
  have w_2 : Cond.initialized RX10 ∈ wsX8_advance := List.mem_of_getElem? (i := 22) rfl
  have w_3 : Cond.static yX10_restOf ∈ wsX8_advance := List.mem_of_getElem? (i := 21) rfl
  have w_4 : Cond.fieldLink RX8 24 "LightMan$Tunnel" "faiths" "[I" ∈ wsX8_advance := List.mem_of_getElem? (i := 3) rfl
  have w_5 : Cond.fieldLink RX8 15 "LightMan$Tunnel" "fogs" "[I" ∈ wsX8_advance := List.mem_of_getElem? (i := 11) rfl
  have w_6 : Cond.static yX10_heldFaith ∈ wsX8_advance := List.mem_of_getElem? (i := 100) rfl
  have w_7 : Cond.fieldLink RX8 9 "LightMan$Tunnel" "laws" "[I" ∈ wsX8_advance := List.mem_of_getElem? (i := 5) rfl
  have w_8 : Cond.fieldLink RX8 27 "LightMan$Tunnel" "places" "[I" ∈ wsX8_advance := List.mem_of_getElem? (i := 12) rfl
  have w_9 : Cond.methodLink RX8 82 Lib.Math.min.name ∈ wsX8_advance := List.mem_of_getElem? (i := 7) rfl
  have w_10 : Cond.static Lib.Math.min.name ∈ wsX8_advance := List.mem_of_getElem? (i := 8) rfl
  have w_11 : Cond.initialized "java/lang/Math" ∈ wsX8_advance := List.mem_of_getElem? (i := 9) rfl
  have w_12 : Cond.code Lib.Math.min.name Lib.Math.min.code 2 (some .int) ∈ wsX8_advance := List.mem_of_getElem? (i := 10) rfl
  have w_13 : Cond.methodLink RX8 90 Lib.Math.max.name ∈ wsX8_advance := List.mem_of_getElem? (i := 13) rfl
  have w_14 : Cond.static Lib.Math.max.name ∈ wsX8_advance := List.mem_of_getElem? (i := 14) rfl
  have w_15 : Cond.code Lib.Math.max.name Lib.Math.max.code 2 (some .int) ∈ wsX8_advance := List.mem_of_getElem? (i := 15) rfl
  have w_16 : Cond.fieldLink RX8 18 "LightMan$Tunnel" "arms" "[I" ∈ wsX8_advance := List.mem_of_getElem? (i := 4) rfl
  have w_17 : Cond.fieldLink RX8 30 "LightMan$Tunnel" "moved" "[I" ∈ wsX8_advance := List.mem_of_getElem? (i := 6) rfl
  have w_18 : Cond.code yX4_fears cX4_fears 2 (some .int) ∈ wsX8_advance := List.mem_of_getElem? (i := 112) rfl
  have w_19 : Cond.code yX4_pace cX4_pace 3 (some .int) ∈ wsX8_advance := List.mem_of_getElem? (i := 141) rfl
  have w_20 : Cond.code yX4_keen cX4_keen 3 (some .int) ∈ wsX8_advance := List.mem_of_getElem? (i := 79) rfl
  refine lv_aload_n hx hb dX8_advance_0 rfl (lv_at hl 0 rfl) ?_
  refine lv_iload_n hx hb dX8_advance_1 rfl (lv_at hl 1 rfl) ?_
  refine mcV hf hk hst hw (c_X8_isThrough l g t tl tf ta tk tg tp tm places cnt stp z ak k (by omega)) (cwV 1 hts gX8_advance_X8_isThrough rfl rfl rfl hdV_X8_isThrough ⟨Nat.le_of_ble_eq_true rfl, Nat.le_of_ble_eq_true rfl⟩) [0, 6] rfl rfl 0 rfl rfl rfl hl.1 rfl (Nat.le_of_ble_eq_true rfl) dX8_advance_2 ⟨Nat.zero_le _, Nat.zero_le _⟩ (W' := [cob t 8 [.ref ak, .ref tl, .ref tf, .ref ta, .ref tk, .ref tg, .ref tp, .ref tm, .int (nI cnt), .int (nI stp), .int z], cin g tl 4 laws, cin g tf 6 fogs, cin g ta 6 arms, cin g tk 8 kinds, cin g tg 8 faiths, cin g tp 8 places, cin g tm 8 moved, ckd g ak 6 (kdf k0 k1 k2 k3 k4 k5), cob k0 4 [], cob k1 2 [], cob k2 5 [], cob k3 6 [], cob k4 9 [], cob k5 1 []]) rfl (fun H locs hw => ?_)
  refine lv_if_eq (tgt := 10) hx hb dX8_advance_5 (by decide) (fun c_1 => ?_) (fun c_1 => ?_)
  · refine lv_aload_n hx hb dX8_advance_10 rfl (lv_at hl 0 rfl) ?_
    refine rg hf hk hw hinX8 0 rfl rfl 0 (by decide) w_0 rfl dX8_advance_11 ?_
    refine lv_aload_n hx hb dX8_advance_14 rfl (lv_at hl 0 rfl) ?_
    refine rg hf hk hw hinX8 0 rfl rfl 4 (by decide) w_1 rfl dX8_advance_15 ?_
    refine lv_iload_n hx hb dX8_advance_18 rfl (lv_at hl 1 rfl) ?_
    refine rij hf hk hw 4 rfl (j := k) (vp_in_nI (by omega) (by omega)) (nI_clamp (by omega)) dX8_advance_19 ?_
    rcases hkd with e_2 | e_2 | e_2 | e_2 | e_2 | e_2
    · refine rkj hf hk hw 8 rfl (j := 0) (r := some k0) (by rw [e_2]; exact vp_in_nI (n := 0) (by omega) (by omega)) (by rw [e_2]; rfl) rfl dX8_advance_20 ?_
      refine lv_astore_n (lv' := [(3, .ref k0), (0, .ref t), (1, .int (nI k)), (2, .int (nI st))]) hx hb dX8_advance_21 rfl hl (by decide) rfl (fun ls hl => ?_)
      refine lv_iload_n hx hb dX8_advance_22 rfl (lv_at hl 3 rfl) ?_
      refine mcN hf hk hst hw (c_X10_restOf l g st (by omega)) ⟨va_cnB 1 hts gX8_advance_X10_restOf_n57 rfl rfl rfl hk.2.1.1 (hts _ w_2) hdS_X10_restOf ⟨Nat.le_of_ble_eq_true rfl, Nat.le_of_ble_eq_true rfl⟩, hts _ w_3, trivial⟩ [] rfl rfl rfl hl.1 rfl (Nat.le_of_ble_eq_true rfl) dX8_advance_23 ⟨Nat.zero_le _, Nat.zero_le _⟩ (W' := [cob t 8 [.ref ak, .ref tl, .ref tf, .ref ta, .ref tk, .ref tg, .ref tp, .ref tm, .int (nI cnt), .int (nI stp), .int z], cin g tl 4 laws, cin g tf 6 fogs, cin g ta 6 arms, cin g tk 8 kinds, cin g tg 8 faiths, cin g tp 8 places, cin g tm 8 moved, ckd g ak 6 (kdf k0 k1 k2 k3 k4 k5), cob k0 4 [], cob k1 2 [], cob k2 5 [], cob k3 6 [], cob k4 9 [], cob k5 1 []]) rfl (fun H locs hw => ?_)
      refine lv_istore (lv' := [(4, .int (nI (st % 6))), (3, .ref k0), (0, .ref t), (1, .int (nI k)), (2, .int (nI st))]) hx hb dX8_advance_26 hl (by decide) rfl (fun ls hl => ?_)
      refine lv_aload_n hx hb dX8_advance_28 rfl (lv_at hl 2 rfl) ?_
      refine lv_iload_n hx hb dX8_advance_29 rfl (lv_at hl 3 rfl) ?_
      refine lv_iload_n hx hb dX8_advance_30 rfl (lv_at hl 4 rfl) ?_
      refine mcV hf hk hst hw (c_X8_sees l g t tl tf ta tk tg tp tm laws fogs arms kinds faiths places moved cnt stp z ak k0 k1 k2 k3 k4 k5 k st (by omega) (by omega) (by assumption)) (cwV 2 hts gX8_advance_X8_sees rfl rfl rfl hdV_X8_sees ⟨Nat.le_of_ble_eq_true rfl, Nat.le_of_ble_eq_true rfl⟩) [0, 1, 2, 3, 4, 5, 6, 7, 8, 9, 10, 11, 12, 13, 14] rfl rfl 0 rfl rfl rfl hl.1 rfl (Nat.le_of_ble_eq_true rfl) dX8_advance_31 ⟨Nat.zero_le _, Nat.zero_le _⟩ (W' := [cob t 8 [.ref ak, .ref tl, .ref tf, .ref ta, .ref tk, .ref tg, .ref tp, .ref tm, .int (nI cnt), .int (nI stp), .int z], cin g tl 4 laws, cin g tf 6 fogs, cin g ta 6 arms, cin g tk 8 kinds, cin g tg 8 faiths, cin g tp 8 places, cin g tm 8 moved, ckd g ak 6 (kdf k0 k1 k2 k3 k4 k5), cob k0 4 [], cob k1 2 [], cob k2 5 [], cob k3 6 [], cob k4 9 [], cob k5 1 []]) rfl (fun H locs hw => ?_)
      refine lv_istore (lv' := [(5, .int (seesF (kinds k) (fogs (st % 6)) (arms (st % 6)) (laws 0) (places k))), (4, .int (nI (st % 6))), (3, .ref k0), (0, .ref t), (1, .int (nI k)), (2, .int (nI st))]) hx hb dX8_advance_34 hl (by decide) rfl (fun ls hl => ?_)
      refine lv_iload hx hb dX8_advance_36 (lv_at hl 0 rfl) ?_
      refine lv_if_eq (tgt := 97) hx hb dX8_advance_38 (by decide) (fun c_3 => ?_) (fun c_3 => ?_)
      · refine lv_aload_n hx hb dX8_advance_97 rfl (lv_at hl 3 rfl) ?_
        refine rg hf hk hw hinX8 0 rfl rfl 5 (by decide) w_4 rfl dX8_advance_98 ?_
        refine lv_iload_n hx hb dX8_advance_101 rfl (lv_at hl 4 rfl) ?_
        refine lv_aload_n hx hb dX8_advance_102 rfl (lv_at hl 3 rfl) ?_
        refine rg hf hk hw hinX8 0 rfl rfl 5 (by decide) w_4 rfl dX8_advance_103 ?_
        refine lv_iload_n hx hb dX8_advance_106 rfl (lv_at hl 4 rfl) ?_
        refine rij hf hk hw 5 rfl (j := k) (vp_in_nI (by omega) (by omega)) (nI_clamp (by omega)) dX8_advance_107 ?_
        refine lv_aload_n hx hb dX8_advance_108 rfl (lv_at hl 2 rfl) ?_
        refine lv_aload_n hx hb dX8_advance_109 rfl (lv_at hl 3 rfl) ?_
        refine rg hf hk hw hinX8 0 rfl rfl 2 (by decide) w_5 rfl dX8_advance_110 ?_
        refine lv_iload hx hb dX8_advance_113 (lv_at hl 1 rfl) ?_
        refine rij hf hk hw 2 rfl (j := st % 6) (vp_in_nI (by omega) (by omega)) (nI_clamp (by omega)) dX8_advance_115 ?_
        refine mcV hf hk hst hw (c_X4_fears l g k0 (fogs (st % 6))) (cwV 1 hts gX8_advance_X4_fears rfl rfl rfl hdV_X4_fears ⟨Nat.le_of_ble_eq_true rfl, Nat.le_of_ble_eq_true rfl⟩) [] rfl rfl 9 rfl rfl rfl hl.1 rfl (Nat.le_of_ble_eq_true rfl) dX8_advance_116 ⟨Nat.zero_le _, Nat.zero_le _⟩ (W' := [cob t 8 [.ref ak, .ref tl, .ref tf, .ref ta, .ref tk, .ref tg, .ref tp, .ref tm, .int (nI cnt), .int (nI stp), .int z], cin g tl 4 laws, cin g tf 6 fogs, cin g ta 6 arms, cin g tk 8 kinds, cin g tg 8 faiths, cin g tp 8 places, cin g tm 8 moved, ckd g ak 6 (kdf k0 k1 k2 k3 k4 k5), cob k0 4 [], cob k1 2 [], cob k2 5 [], cob k3 6 [], cob k4 9 [], cob k5 1 []]) rfl (fun H locs hw => ?_)
        refine lv_isub hx hb dX8_advance_119 ?_
        refine mcN hf hk hst hw (c_X10_heldFaith l g ((faiths k) - 2)) ⟨va_cnB 1 hts gX8_advance_X10_heldFaith_n79 rfl rfl rfl hk.2.1.2 (hts _ w_2) hdS_X10_heldFaith ⟨Nat.le_of_ble_eq_true rfl, Nat.le_of_ble_eq_true rfl⟩, hts _ w_6, trivial⟩ [] rfl rfl rfl hl.1 rfl (Nat.le_of_ble_eq_true rfl) dX8_advance_120 ⟨Nat.zero_le _, Nat.zero_le _⟩ (W' := [cob t 8 [.ref ak, .ref tl, .ref tf, .ref ta, .ref tk, .ref tg, .ref tp, .ref tm, .int (nI cnt), .int (nI stp), .int z], cin g tl 4 laws, cin g tf 6 fogs, cin g ta 6 arms, cin g tk 8 kinds, cin g tg 8 faiths, cin g tp 8 places, cin g tm 8 moved, ckd g ak 6 (kdf k0 k1 k2 k3 k4 k5), cob k0 4 [], cob k1 2 [], cob k2 5 [], cob k3 6 [], cob k4 9 [], cob k5 1 []]) rfl (fun H locs hw => ?_)
        refine rsj hf hk hw 5 rfl (j := k) (vp_in_nI (by omega) (by omega)) (nI_clamp (by omega)) dX8_advance_123 (W' := [cob t 8 [.ref ak, .ref tl, .ref tf, .ref ta, .ref tk, .ref tg, .ref tp, .ref tm, .int (nI cnt), .int (nI stp), .int z], cin g tl 4 laws, cin g tf 6 fogs, cin g ta 6 arms, cin g tk 8 kinds, cin g tg 8 (upd faiths k (mmax32 0 (mmin32 99 ((faiths k) - 2)))), cin g tp 8 places, cin g tm 8 moved, ckd g ak 6 (kdf k0 k1 k2 k3 k4 k5), cob k0 4 [], cob k1 2 [], cob k2 5 [], cob k3 6 [], cob k4 9 [], cob k5 1 []]) rfl (fun H locs hw => ?_)
        refine lv_aload_n hx hb dX8_advance_124 rfl (lv_at hl 3 rfl) ?_
        refine rg hf hk hw hinX8 0 rfl rfl 5 (by decide) w_4 rfl dX8_advance_125 ?_
        refine lv_iload_n hx hb dX8_advance_128 rfl (lv_at hl 4 rfl) ?_
        refine rij hf hk hw 5 rfl (j := k) (vp_in_nI (by omega) (by omega)) (nI_clamp (by omega)) dX8_advance_129 ?_
        refine lv_tope (y := mmax32 0 (mmin32 99 ((faiths k) - 2))) pk_us ?_
        refine lv_aload_n hx hb dX8_advance_130 rfl (lv_at hl 3 rfl) ?_
        refine rg hf hk hw hinX8 0 rfl rfl 1 (by decide) w_7 rfl dX8_advance_131 ?_
        refine lv_iconst (v := 1) hx hb dX8_advance_134 (by decide) ?_
        refine rij hf hk hw 1 rfl (j := 1) (vp_in_nI (n := 1) (by omega) (by omega)) (rfl) dX8_advance_135 ?_
        refine lv_icmp_ge (tgt := 159) hx hb dX8_advance_136 (by decide) (fun c_4 => ?_) (fun c_4 => ?_)
        · refine lv_aload_n hx hb dX8_advance_159 rfl (lv_at hl 3 rfl) ?_
          refine rg hf hk hw hinX8 0 rfl rfl 5 (by decide) w_4 rfl dX8_advance_160 ?_
          refine lv_iload_n hx hb dX8_advance_163 rfl (lv_at hl 4 rfl) ?_
          refine rij hf hk hw 5 rfl (j := k) (vp_in_nI (by omega) (by omega)) (nI_clamp (by omega)) dX8_advance_164 ?_
          refine lv_tope (y := mmax32 0 (mmin32 99 ((faiths k) - 2))) pk_us ?_
          refine lv_aload_n hx hb dX8_advance_165 rfl (lv_at hl 3 rfl) ?_
          refine rg hf hk hw hinX8 0 rfl rfl 1 (by decide) w_7 rfl dX8_advance_166 ?_
          refine lv_iconst (v := 2) hx hb dX8_advance_169 (by decide) ?_
          refine rij hf hk hw 1 rfl (j := 2) (vp_in_nI (n := 2) (by omega) (by omega)) (rfl) dX8_advance_170 ?_
          refine lv_icmp_le (tgt := 176) hx hb dX8_advance_171 (by decide) (fun c_5 => ?_) (fun c_5 => ?_)
          · refine lv_aload_n hx hb dX8_advance_176 rfl (lv_at hl 3 rfl) ?_
            refine rg hf hk hw hinX8 0 rfl rfl 6 (by decide) w_8 rfl dX8_advance_177 ?_
            refine lv_iload_n hx hb dX8_advance_180 rfl (lv_at hl 4 rfl) ?_
            refine lv_bipush (v := 12) hx hb dX8_advance_181 (by decide) ?_
            refine lv_aload_n hx hb dX8_advance_183 rfl (lv_at hl 3 rfl) ?_
            refine rg hf hk hw hinX8 0 rfl rfl 6 (by decide) w_8 rfl dX8_advance_184 ?_
            refine lv_iload_n hx hb dX8_advance_187 rfl (lv_at hl 4 rfl) ?_
            refine rij hf hk hw 6 rfl (j := k) (vp_in_nI (by omega) (by omega)) (nI_clamp (by omega)) dX8_advance_188 ?_
            refine lv_aload_n hx hb dX8_advance_189 rfl (lv_at hl 2 rfl) ?_
            refine lv_iload_n hx hb dX8_advance_190 rfl (lv_at hl 5 rfl) ?_
            refine lv_iload hx hb dX8_advance_191 (lv_at hl 0 rfl) ?_
            refine mcV hf hk hst hw (c_X4_pace l g k0 (nI st) (seesF (kinds k) (fogs (st % 6)) (arms (st % 6)) (laws 0) (places k))) (cwV 2 hts gX8_advance_X4_pace rfl rfl rfl hdV_X4_pace ⟨Nat.le_of_ble_eq_true rfl, Nat.le_of_ble_eq_true rfl⟩) [] rfl rfl 9 rfl rfl rfl hl.1 rfl (Nat.le_of_ble_eq_true rfl) dX8_advance_193 ⟨Nat.zero_le _, Nat.zero_le _⟩ (W' := [cob t 8 [.ref ak, .ref tl, .ref tf, .ref ta, .ref tk, .ref tg, .ref tp, .ref tm, .int (nI cnt), .int (nI stp), .int z], cin g tl 4 laws, cin g tf 6 fogs, cin g ta 6 arms, cin g tk 8 kinds, cin g tg 8 (upd faiths k (mmax32 0 (mmin32 99 ((faiths k) - 2)))), cin g tp 8 places, cin g tm 8 moved, ckd g ak 6 (kdf k0 k1 k2 k3 k4 k5), cob k0 4 [], cob k1 2 [], cob k2 5 [], cob k3 6 [], cob k4 9 [], cob k5 1 []]) rfl (fun H locs hw => ?_)
            refine lv_iadd hx hb dX8_advance_196 ?_
            refine rmmin hx hb (hf.2.2.1.trans hl.1.symm) hf.2.2.2.1 (hts _ w_9) (hts _ w_10) (hts _ w_11) (hts _ w_12) (Nat.le_of_ble_eq_true rfl) (Nat.le_of_ble_eq_true rfl) (Nat.zero_le _) (Nat.zero_le _) dX8_advance_197 ?_
            refine rsj hf hk hw 6 rfl (j := k) (vp_in_nI (by omega) (by omega)) (nI_clamp (by omega)) dX8_advance_200 (W' := [cob t 8 [.ref ak, .ref tl, .ref tf, .ref ta, .ref tk, .ref tg, .ref tp, .ref tm, .int (nI cnt), .int (nI stp), .int z], cin g tl 4 laws, cin g tf 6 fogs, cin g ta 6 arms, cin g tk 8 kinds, cin g tg 8 (upd faiths k (mmax32 0 (mmin32 99 ((faiths k) - 2)))), cin g tp 8 (upd places k (mmin32 12 ((places k) + 1))), cin g tm 8 moved, ckd g ak 6 (kdf k0 k1 k2 k3 k4 k5), cob k0 4 [], cob k1 2 [], cob k2 5 [], cob k3 6 [], cob k4 9 [], cob k5 1 []]) rfl (fun H locs hw => ?_)
            refine lv_iconst (v := 1) hx hb dX8_advance_201 (by decide) ?_
            have hfa : vF (kinds k) (fogs (st % 6)) (arms (st % 6)) (laws 0) (faiths k) (places k) = (mmax32 0 (mmin32 99 ((faiths k) - 2))) := by unfold vF; rw [if_pos c_3, e_2]; rfl
            have hpa : ∀ x : Int32, paceF (kinds k) (nI st) x = 1 := by intro x; rw [e_2]; rfl
            exact re_i hf hr hlk hw (by simp only [n1D, vD, if_pos c_1, if_pos c_3, hfa, if_pos c_4, if_pos c_5, hpa]) (by simp only [aG, vP, vM, upd_id, if_pos c_1, if_pos c_3, hfa, if_pos c_4, if_pos c_5, hpa]) dX8_advance_202
          · refine lv_iconst (v := 2) hx hb dX8_advance_174 (by decide) ?_
            have hfa : vF (kinds k) (fogs (st % 6)) (arms (st % 6)) (laws 0) (faiths k) (places k) = (mmax32 0 (mmin32 99 ((faiths k) - 2))) := by unfold vF; rw [if_pos c_3, e_2]; rfl
            exact re_i hf hr hlk hw (by simp only [n1D, vD, if_pos c_1, if_pos c_3, hfa, if_pos c_4, if_neg c_5]) (by simp only [aG, vP, vM, upd_id, if_pos c_1, if_pos c_3, hfa, if_pos c_4, if_neg c_5]) dX8_advance_175
        · refine lv_aload_n hx hb dX8_advance_139 rfl (lv_at hl 3 rfl) ?_
          refine rg hf hk hw hinX8 0 rfl rfl 6 (by decide) w_8 rfl dX8_advance_140 ?_
          refine lv_iload_n hx hb dX8_advance_143 rfl (lv_at hl 4 rfl) ?_
          refine lv_iconst (v := 0) hx hb dX8_advance_144 (by decide) ?_
          refine lv_aload_n hx hb dX8_advance_145 rfl (lv_at hl 3 rfl) ?_
          refine rg hf hk hw hinX8 0 rfl rfl 6 (by decide) w_8 rfl dX8_advance_146 ?_
          refine lv_iload_n hx hb dX8_advance_149 rfl (lv_at hl 4 rfl) ?_
          refine rij hf hk hw 6 rfl (j := k) (vp_in_nI (by omega) (by omega)) (nI_clamp (by omega)) dX8_advance_150 ?_
          refine lv_iconst (v := 1) hx hb dX8_advance_151 (by decide) ?_
          refine lv_isub hx hb dX8_advance_152 ?_
          refine rmmax hx hb (hf.2.2.1.trans hl.1.symm) hf.2.2.2.1 (hts _ w_13) (hts _ w_14) (hts _ w_11) (hts _ w_15) (Nat.le_of_ble_eq_true rfl) (Nat.le_of_ble_eq_true rfl) (Nat.zero_le _) (Nat.zero_le _) dX8_advance_153 ?_
          refine rsj hf hk hw 6 rfl (j := k) (vp_in_nI (by omega) (by omega)) (nI_clamp (by omega)) dX8_advance_156 (W' := [cob t 8 [.ref ak, .ref tl, .ref tf, .ref ta, .ref tk, .ref tg, .ref tp, .ref tm, .int (nI cnt), .int (nI stp), .int z], cin g tl 4 laws, cin g tf 6 fogs, cin g ta 6 arms, cin g tk 8 kinds, cin g tg 8 (upd faiths k (mmax32 0 (mmin32 99 ((faiths k) - 2)))), cin g tp 8 (upd places k (mmax32 0 ((places k) - 1))), cin g tm 8 moved, ckd g ak 6 (kdf k0 k1 k2 k3 k4 k5), cob k0 4 [], cob k1 2 [], cob k2 5 [], cob k3 6 [], cob k4 9 [], cob k5 1 []]) rfl (fun H locs hw => ?_)
          refine lv_iconst (v := 3) hx hb dX8_advance_157 (by decide) ?_
          have hfa : vF (kinds k) (fogs (st % 6)) (arms (st % 6)) (laws 0) (faiths k) (places k) = (mmax32 0 (mmin32 99 ((faiths k) - 2))) := by unfold vF; rw [if_pos c_3, e_2]; rfl
          exact re_i hf hr hlk hw (by simp only [n1D, vD, if_pos c_1, if_pos c_3, hfa, if_neg c_4]) (by simp only [aG, vP, vM, upd_id, if_pos c_1, if_pos c_3, hfa, if_neg c_4]) dX8_advance_158
      · refine lv_aload_n hx hb dX8_advance_41 rfl (lv_at hl 3 rfl) ?_
        refine rg hf hk hw hinX8 0 rfl rfl 5 (by decide) w_4 rfl dX8_advance_42 ?_
        refine lv_iload_n hx hb dX8_advance_45 rfl (lv_at hl 4 rfl) ?_
        refine lv_aload_n hx hb dX8_advance_46 rfl (lv_at hl 3 rfl) ?_
        refine rg hf hk hw hinX8 0 rfl rfl 5 (by decide) w_4 rfl dX8_advance_47 ?_
        refine lv_iload_n hx hb dX8_advance_50 rfl (lv_at hl 4 rfl) ?_
        refine rij hf hk hw 5 rfl (j := k) (vp_in_nI (by omega) (by omega)) (nI_clamp (by omega)) dX8_advance_51 ?_
        refine lv_aload_n hx hb dX8_advance_52 rfl (lv_at hl 2 rfl) ?_
        refine lv_aload_n hx hb dX8_advance_53 rfl (lv_at hl 3 rfl) ?_
        refine rg hf hk hw hinX8 0 rfl rfl 3 (by decide) w_16 rfl dX8_advance_54 ?_
        refine lv_iload hx hb dX8_advance_57 (lv_at hl 1 rfl) ?_
        refine rij hf hk hw 3 rfl (j := st % 6) (vp_in_nI (by omega) (by omega)) (nI_clamp (by omega)) dX8_advance_59 ?_
        refine lv_aload_n hx hb dX8_advance_60 rfl (lv_at hl 3 rfl) ?_
        refine rg hf hk hw hinX8 0 rfl rfl 1 (by decide) w_7 rfl dX8_advance_61 ?_
        refine lv_iconst (v := 0) hx hb dX8_advance_64 (by decide) ?_
        refine rij hf hk hw 1 rfl (j := 0) (vp_in_nI (n := 0) (by omega) (by omega)) (rfl) dX8_advance_65 ?_
        refine mcV hf hk hst hw (c_X4_keen l g k0 (arms (st % 6)) (laws 0)) (cwV 2 hts gX8_advance_X4_keen rfl rfl rfl hdV_X4_keen ⟨Nat.le_of_ble_eq_true rfl, Nat.le_of_ble_eq_true rfl⟩) [] rfl rfl 9 rfl rfl rfl hl.1 rfl (Nat.le_of_ble_eq_true rfl) dX8_advance_66 ⟨Nat.zero_le _, Nat.zero_le _⟩ (W' := [cob t 8 [.ref ak, .ref tl, .ref tf, .ref ta, .ref tk, .ref tg, .ref tp, .ref tm, .int (nI cnt), .int (nI stp), .int z], cin g tl 4 laws, cin g tf 6 fogs, cin g ta 6 arms, cin g tk 8 kinds, cin g tg 8 faiths, cin g tp 8 places, cin g tm 8 moved, ckd g ak 6 (kdf k0 k1 k2 k3 k4 k5), cob k0 4 [], cob k1 2 [], cob k2 5 [], cob k3 6 [], cob k4 9 [], cob k5 1 []]) rfl (fun H locs hw => ?_)
        refine lv_iadd hx hb dX8_advance_69 ?_
        refine mcN hf hk hst hw (c_X10_heldFaith l g ((faiths k) + 3)) ⟨va_cnB 1 hts gX8_advance_X10_heldFaith_n79 rfl rfl rfl hk.2.1.2 (hts _ w_2) hdS_X10_heldFaith ⟨Nat.le_of_ble_eq_true rfl, Nat.le_of_ble_eq_true rfl⟩, hts _ w_6, trivial⟩ [] rfl rfl rfl hl.1 rfl (Nat.le_of_ble_eq_true rfl) dX8_advance_70 ⟨Nat.zero_le _, Nat.zero_le _⟩ (W' := [cob t 8 [.ref ak, .ref tl, .ref tf, .ref ta, .ref tk, .ref tg, .ref tp, .ref tm, .int (nI cnt), .int (nI stp), .int z], cin g tl 4 laws, cin g tf 6 fogs, cin g ta 6 arms, cin g tk 8 kinds, cin g tg 8 faiths, cin g tp 8 places, cin g tm 8 moved, ckd g ak 6 (kdf k0 k1 k2 k3 k4 k5), cob k0 4 [], cob k1 2 [], cob k2 5 [], cob k3 6 [], cob k4 9 [], cob k5 1 []]) rfl (fun H locs hw => ?_)
        refine rsj hf hk hw 5 rfl (j := k) (vp_in_nI (by omega) (by omega)) (nI_clamp (by omega)) dX8_advance_73 (W' := [cob t 8 [.ref ak, .ref tl, .ref tf, .ref ta, .ref tk, .ref tg, .ref tp, .ref tm, .int (nI cnt), .int (nI stp), .int z], cin g tl 4 laws, cin g tf 6 fogs, cin g ta 6 arms, cin g tk 8 kinds, cin g tg 8 (upd faiths k (mmax32 0 (mmin32 99 ((faiths k) + 3)))), cin g tp 8 places, cin g tm 8 moved, ckd g ak 6 (kdf k0 k1 k2 k3 k4 k5), cob k0 4 [], cob k1 2 [], cob k2 5 [], cob k3 6 [], cob k4 9 [], cob k5 1 []]) rfl (fun H locs hw => ?_)
        refine lv_aload_n hx hb dX8_advance_74 rfl (lv_at hl 3 rfl) ?_
        refine rg hf hk hw hinX8 0 rfl rfl 7 (by decide) w_17 rfl dX8_advance_75 ?_
        refine lv_iload_n hx hb dX8_advance_78 rfl (lv_at hl 4 rfl) ?_
        refine lv_sipush (v := 9999) hx hb dX8_advance_79 (by decide) ?_
        refine lv_aload_n hx hb dX8_advance_82 rfl (lv_at hl 3 rfl) ?_
        refine rg hf hk hw hinX8 0 rfl rfl 7 (by decide) w_17 rfl dX8_advance_83 ?_
        refine lv_iload_n hx hb dX8_advance_86 rfl (lv_at hl 4 rfl) ?_
        refine rij hf hk hw 7 rfl (j := k) (vp_in_nI (by omega) (by omega)) (nI_clamp (by omega)) dX8_advance_87 ?_
        refine lv_iconst (v := 1) hx hb dX8_advance_88 (by decide) ?_
        refine lv_iadd hx hb dX8_advance_89 ?_
        refine rmmin hx hb (hf.2.2.1.trans hl.1.symm) hf.2.2.2.1 (hts _ w_9) (hts _ w_10) (hts _ w_11) (hts _ w_12) (Nat.le_of_ble_eq_true rfl) (Nat.le_of_ble_eq_true rfl) (Nat.zero_le _) (Nat.zero_le _) dX8_advance_90 ?_
        refine rsj hf hk hw 7 rfl (j := k) (vp_in_nI (by omega) (by omega)) (nI_clamp (by omega)) dX8_advance_93 (W' := [cob t 8 [.ref ak, .ref tl, .ref tf, .ref ta, .ref tk, .ref tg, .ref tp, .ref tm, .int (nI cnt), .int (nI stp), .int z], cin g tl 4 laws, cin g tf 6 fogs, cin g ta 6 arms, cin g tk 8 kinds, cin g tg 8 (upd faiths k (mmax32 0 (mmin32 99 ((faiths k) + 3)))), cin g tp 8 places, cin g tm 8 (upd moved k (mmin32 9999 ((moved k) + 1))), ckd g ak 6 (kdf k0 k1 k2 k3 k4 k5), cob k0 4 [], cob k1 2 [], cob k2 5 [], cob k3 6 [], cob k4 9 [], cob k5 1 []]) rfl (fun H locs hw => ?_)
        refine lv_goto (tgt := 124) hx hb dX8_advance_94 (by decide) ?_
        refine lv_aload_n hx hb dX8_advance_124 rfl (lv_at hl 3 rfl) ?_
        refine rg hf hk hw hinX8 0 rfl rfl 5 (by decide) w_4 rfl dX8_advance_125 ?_
        refine lv_iload_n hx hb dX8_advance_128 rfl (lv_at hl 4 rfl) ?_
        refine rij hf hk hw 5 rfl (j := k) (vp_in_nI (by omega) (by omega)) (nI_clamp (by omega)) dX8_advance_129 ?_
        refine lv_tope (y := mmax32 0 (mmin32 99 ((faiths k) + 3))) pk_us ?_
        refine lv_aload_n hx hb dX8_advance_130 rfl (lv_at hl 3 rfl) ?_
        refine rg hf hk hw hinX8 0 rfl rfl 1 (by decide) w_7 rfl dX8_advance_131 ?_
        refine lv_iconst (v := 1) hx hb dX8_advance_134 (by decide) ?_
        refine rij hf hk hw 1 rfl (j := 1) (vp_in_nI (n := 1) (by omega) (by omega)) (rfl) dX8_advance_135 ?_
        refine lv_icmp_ge (tgt := 159) hx hb dX8_advance_136 (by decide) (fun c_6 => ?_) (fun c_6 => ?_)
        · refine lv_aload_n hx hb dX8_advance_159 rfl (lv_at hl 3 rfl) ?_
          refine rg hf hk hw hinX8 0 rfl rfl 5 (by decide) w_4 rfl dX8_advance_160 ?_
          refine lv_iload_n hx hb dX8_advance_163 rfl (lv_at hl 4 rfl) ?_
          refine rij hf hk hw 5 rfl (j := k) (vp_in_nI (by omega) (by omega)) (nI_clamp (by omega)) dX8_advance_164 ?_
          refine lv_tope (y := mmax32 0 (mmin32 99 ((faiths k) + 3))) pk_us ?_
          refine lv_aload_n hx hb dX8_advance_165 rfl (lv_at hl 3 rfl) ?_
          refine rg hf hk hw hinX8 0 rfl rfl 1 (by decide) w_7 rfl dX8_advance_166 ?_
          refine lv_iconst (v := 2) hx hb dX8_advance_169 (by decide) ?_
          refine rij hf hk hw 1 rfl (j := 2) (vp_in_nI (n := 2) (by omega) (by omega)) (rfl) dX8_advance_170 ?_
          refine lv_icmp_le (tgt := 176) hx hb dX8_advance_171 (by decide) (fun c_7 => ?_) (fun c_7 => ?_)
          · refine lv_aload_n hx hb dX8_advance_176 rfl (lv_at hl 3 rfl) ?_
            refine rg hf hk hw hinX8 0 rfl rfl 6 (by decide) w_8 rfl dX8_advance_177 ?_
            refine lv_iload_n hx hb dX8_advance_180 rfl (lv_at hl 4 rfl) ?_
            refine lv_bipush (v := 12) hx hb dX8_advance_181 (by decide) ?_
            refine lv_aload_n hx hb dX8_advance_183 rfl (lv_at hl 3 rfl) ?_
            refine rg hf hk hw hinX8 0 rfl rfl 6 (by decide) w_8 rfl dX8_advance_184 ?_
            refine lv_iload_n hx hb dX8_advance_187 rfl (lv_at hl 4 rfl) ?_
            refine rij hf hk hw 6 rfl (j := k) (vp_in_nI (by omega) (by omega)) (nI_clamp (by omega)) dX8_advance_188 ?_
            refine lv_aload_n hx hb dX8_advance_189 rfl (lv_at hl 2 rfl) ?_
            refine lv_iload_n hx hb dX8_advance_190 rfl (lv_at hl 5 rfl) ?_
            refine lv_iload hx hb dX8_advance_191 (lv_at hl 0 rfl) ?_
            refine mcV hf hk hst hw (c_X4_pace l g k0 (nI st) (seesF (kinds k) (fogs (st % 6)) (arms (st % 6)) (laws 0) (places k))) (cwV 2 hts gX8_advance_X4_pace rfl rfl rfl hdV_X4_pace ⟨Nat.le_of_ble_eq_true rfl, Nat.le_of_ble_eq_true rfl⟩) [] rfl rfl 9 rfl rfl rfl hl.1 rfl (Nat.le_of_ble_eq_true rfl) dX8_advance_193 ⟨Nat.zero_le _, Nat.zero_le _⟩ (W' := [cob t 8 [.ref ak, .ref tl, .ref tf, .ref ta, .ref tk, .ref tg, .ref tp, .ref tm, .int (nI cnt), .int (nI stp), .int z], cin g tl 4 laws, cin g tf 6 fogs, cin g ta 6 arms, cin g tk 8 kinds, cin g tg 8 (upd faiths k (mmax32 0 (mmin32 99 ((faiths k) + 3)))), cin g tp 8 places, cin g tm 8 (upd moved k (mmin32 9999 ((moved k) + 1))), ckd g ak 6 (kdf k0 k1 k2 k3 k4 k5), cob k0 4 [], cob k1 2 [], cob k2 5 [], cob k3 6 [], cob k4 9 [], cob k5 1 []]) rfl (fun H locs hw => ?_)
            refine lv_iadd hx hb dX8_advance_196 ?_
            refine rmmin hx hb (hf.2.2.1.trans hl.1.symm) hf.2.2.2.1 (hts _ w_9) (hts _ w_10) (hts _ w_11) (hts _ w_12) (Nat.le_of_ble_eq_true rfl) (Nat.le_of_ble_eq_true rfl) (Nat.zero_le _) (Nat.zero_le _) dX8_advance_197 ?_
            refine rsj hf hk hw 6 rfl (j := k) (vp_in_nI (by omega) (by omega)) (nI_clamp (by omega)) dX8_advance_200 (W' := [cob t 8 [.ref ak, .ref tl, .ref tf, .ref ta, .ref tk, .ref tg, .ref tp, .ref tm, .int (nI cnt), .int (nI stp), .int z], cin g tl 4 laws, cin g tf 6 fogs, cin g ta 6 arms, cin g tk 8 kinds, cin g tg 8 (upd faiths k (mmax32 0 (mmin32 99 ((faiths k) + 3)))), cin g tp 8 (upd places k (mmin32 12 ((places k) + 1))), cin g tm 8 (upd moved k (mmin32 9999 ((moved k) + 1))), ckd g ak 6 (kdf k0 k1 k2 k3 k4 k5), cob k0 4 [], cob k1 2 [], cob k2 5 [], cob k3 6 [], cob k4 9 [], cob k5 1 []]) rfl (fun H locs hw => ?_)
            refine lv_iconst (v := 1) hx hb dX8_advance_201 (by decide) ?_
            have hfa : vF (kinds k) (fogs (st % 6)) (arms (st % 6)) (laws 0) (faiths k) (places k) = (mmax32 0 (mmin32 99 ((faiths k) + 3))) := by unfold vF; rw [if_neg c_3, e_2]; rfl
            have hpa : ∀ x : Int32, paceF (kinds k) (nI st) x = 1 := by intro x; rw [e_2]; rfl
            exact re_i hf hr hlk hw (by simp only [n1D, vD, if_pos c_1, if_neg c_3, hfa, if_pos c_6, if_pos c_7, hpa]) (by simp only [aG, vP, vM, upd_id, if_pos c_1, if_neg c_3, hfa, if_pos c_6, if_pos c_7, hpa]) dX8_advance_202
          · refine lv_iconst (v := 2) hx hb dX8_advance_174 (by decide) ?_
            have hfa : vF (kinds k) (fogs (st % 6)) (arms (st % 6)) (laws 0) (faiths k) (places k) = (mmax32 0 (mmin32 99 ((faiths k) + 3))) := by unfold vF; rw [if_neg c_3, e_2]; rfl
            exact re_i hf hr hlk hw (by simp only [n1D, vD, if_pos c_1, if_neg c_3, hfa, if_pos c_6, if_neg c_7]) (by simp only [aG, vP, vM, upd_id, if_pos c_1, if_neg c_3, hfa, if_pos c_6, if_neg c_7]) dX8_advance_175
        · refine lv_aload_n hx hb dX8_advance_139 rfl (lv_at hl 3 rfl) ?_
          refine rg hf hk hw hinX8 0 rfl rfl 6 (by decide) w_8 rfl dX8_advance_140 ?_
          refine lv_iload_n hx hb dX8_advance_143 rfl (lv_at hl 4 rfl) ?_
          refine lv_iconst (v := 0) hx hb dX8_advance_144 (by decide) ?_
          refine lv_aload_n hx hb dX8_advance_145 rfl (lv_at hl 3 rfl) ?_
          refine rg hf hk hw hinX8 0 rfl rfl 6 (by decide) w_8 rfl dX8_advance_146 ?_
          refine lv_iload_n hx hb dX8_advance_149 rfl (lv_at hl 4 rfl) ?_
          refine rij hf hk hw 6 rfl (j := k) (vp_in_nI (by omega) (by omega)) (nI_clamp (by omega)) dX8_advance_150 ?_
          refine lv_iconst (v := 1) hx hb dX8_advance_151 (by decide) ?_
          refine lv_isub hx hb dX8_advance_152 ?_
          refine rmmax hx hb (hf.2.2.1.trans hl.1.symm) hf.2.2.2.1 (hts _ w_13) (hts _ w_14) (hts _ w_11) (hts _ w_15) (Nat.le_of_ble_eq_true rfl) (Nat.le_of_ble_eq_true rfl) (Nat.zero_le _) (Nat.zero_le _) dX8_advance_153 ?_
          refine rsj hf hk hw 6 rfl (j := k) (vp_in_nI (by omega) (by omega)) (nI_clamp (by omega)) dX8_advance_156 (W' := [cob t 8 [.ref ak, .ref tl, .ref tf, .ref ta, .ref tk, .ref tg, .ref tp, .ref tm, .int (nI cnt), .int (nI stp), .int z], cin g tl 4 laws, cin g tf 6 fogs, cin g ta 6 arms, cin g tk 8 kinds, cin g tg 8 (upd faiths k (mmax32 0 (mmin32 99 ((faiths k) + 3)))), cin g tp 8 (upd places k (mmax32 0 ((places k) - 1))), cin g tm 8 (upd moved k (mmin32 9999 ((moved k) + 1))), ckd g ak 6 (kdf k0 k1 k2 k3 k4 k5), cob k0 4 [], cob k1 2 [], cob k2 5 [], cob k3 6 [], cob k4 9 [], cob k5 1 []]) rfl (fun H locs hw => ?_)
          refine lv_iconst (v := 3) hx hb dX8_advance_157 (by decide) ?_
          have hfa : vF (kinds k) (fogs (st % 6)) (arms (st % 6)) (laws 0) (faiths k) (places k) = (mmax32 0 (mmin32 99 ((faiths k) + 3))) := by unfold vF; rw [if_neg c_3, e_2]; rfl
          exact re_i hf hr hlk hw (by simp only [n1D, vD, if_pos c_1, if_neg c_3, hfa, if_neg c_6]) (by simp only [aG, vP, vM, upd_id, if_pos c_1, if_neg c_3, hfa, if_neg c_6]) dX8_advance_158
    · refine rkj hf hk hw 8 rfl (j := 1) (r := some k1) (by rw [e_2]; exact vp_in_nI (n := 1) (by omega) (by omega)) (by rw [e_2]; rfl) rfl dX8_advance_20 ?_
      refine lv_astore_n (lv' := [(3, .ref k1), (0, .ref t), (1, .int (nI k)), (2, .int (nI st))]) hx hb dX8_advance_21 rfl hl (by decide) rfl (fun ls hl => ?_)
      refine lv_iload_n hx hb dX8_advance_22 rfl (lv_at hl 3 rfl) ?_
      refine mcN hf hk hst hw (c_X10_restOf l g st (by omega)) ⟨va_cnB 1 hts gX8_advance_X10_restOf_n57 rfl rfl rfl hk.2.1.1 (hts _ w_2) hdS_X10_restOf ⟨Nat.le_of_ble_eq_true rfl, Nat.le_of_ble_eq_true rfl⟩, hts _ w_3, trivial⟩ [] rfl rfl rfl hl.1 rfl (Nat.le_of_ble_eq_true rfl) dX8_advance_23 ⟨Nat.zero_le _, Nat.zero_le _⟩ (W' := [cob t 8 [.ref ak, .ref tl, .ref tf, .ref ta, .ref tk, .ref tg, .ref tp, .ref tm, .int (nI cnt), .int (nI stp), .int z], cin g tl 4 laws, cin g tf 6 fogs, cin g ta 6 arms, cin g tk 8 kinds, cin g tg 8 faiths, cin g tp 8 places, cin g tm 8 moved, ckd g ak 6 (kdf k0 k1 k2 k3 k4 k5), cob k0 4 [], cob k1 2 [], cob k2 5 [], cob k3 6 [], cob k4 9 [], cob k5 1 []]) rfl (fun H locs hw => ?_)
      refine lv_istore (lv' := [(4, .int (nI (st % 6))), (3, .ref k1), (0, .ref t), (1, .int (nI k)), (2, .int (nI st))]) hx hb dX8_advance_26 hl (by decide) rfl (fun ls hl => ?_)
      refine lv_aload_n hx hb dX8_advance_28 rfl (lv_at hl 2 rfl) ?_
      refine lv_iload_n hx hb dX8_advance_29 rfl (lv_at hl 3 rfl) ?_
      refine lv_iload_n hx hb dX8_advance_30 rfl (lv_at hl 4 rfl) ?_
      refine mcV hf hk hst hw (c_X8_sees l g t tl tf ta tk tg tp tm laws fogs arms kinds faiths places moved cnt stp z ak k0 k1 k2 k3 k4 k5 k st (by omega) (by omega) (by assumption)) (cwV 2 hts gX8_advance_X8_sees rfl rfl rfl hdV_X8_sees ⟨Nat.le_of_ble_eq_true rfl, Nat.le_of_ble_eq_true rfl⟩) [0, 1, 2, 3, 4, 5, 6, 7, 8, 9, 10, 11, 12, 13, 14] rfl rfl 0 rfl rfl rfl hl.1 rfl (Nat.le_of_ble_eq_true rfl) dX8_advance_31 ⟨Nat.zero_le _, Nat.zero_le _⟩ (W' := [cob t 8 [.ref ak, .ref tl, .ref tf, .ref ta, .ref tk, .ref tg, .ref tp, .ref tm, .int (nI cnt), .int (nI stp), .int z], cin g tl 4 laws, cin g tf 6 fogs, cin g ta 6 arms, cin g tk 8 kinds, cin g tg 8 faiths, cin g tp 8 places, cin g tm 8 moved, ckd g ak 6 (kdf k0 k1 k2 k3 k4 k5), cob k0 4 [], cob k1 2 [], cob k2 5 [], cob k3 6 [], cob k4 9 [], cob k5 1 []]) rfl (fun H locs hw => ?_)
      refine lv_istore (lv' := [(5, .int (seesF (kinds k) (fogs (st % 6)) (arms (st % 6)) (laws 0) (places k))), (4, .int (nI (st % 6))), (3, .ref k1), (0, .ref t), (1, .int (nI k)), (2, .int (nI st))]) hx hb dX8_advance_34 hl (by decide) rfl (fun ls hl => ?_)
      refine lv_iload hx hb dX8_advance_36 (lv_at hl 0 rfl) ?_
      refine lv_if_eq (tgt := 97) hx hb dX8_advance_38 (by decide) (fun c_8 => ?_) (fun c_8 => ?_)
      · refine lv_aload_n hx hb dX8_advance_97 rfl (lv_at hl 3 rfl) ?_
        refine rg hf hk hw hinX8 0 rfl rfl 5 (by decide) w_4 rfl dX8_advance_98 ?_
        refine lv_iload_n hx hb dX8_advance_101 rfl (lv_at hl 4 rfl) ?_
        refine lv_aload_n hx hb dX8_advance_102 rfl (lv_at hl 3 rfl) ?_
        refine rg hf hk hw hinX8 0 rfl rfl 5 (by decide) w_4 rfl dX8_advance_103 ?_
        refine lv_iload_n hx hb dX8_advance_106 rfl (lv_at hl 4 rfl) ?_
        refine rij hf hk hw 5 rfl (j := k) (vp_in_nI (by omega) (by omega)) (nI_clamp (by omega)) dX8_advance_107 ?_
        refine lv_aload_n hx hb dX8_advance_108 rfl (lv_at hl 2 rfl) ?_
        refine lv_aload_n hx hb dX8_advance_109 rfl (lv_at hl 3 rfl) ?_
        refine rg hf hk hw hinX8 0 rfl rfl 2 (by decide) w_5 rfl dX8_advance_110 ?_
        refine lv_iload hx hb dX8_advance_113 (lv_at hl 1 rfl) ?_
        refine rij hf hk hw 2 rfl (j := st % 6) (vp_in_nI (by omega) (by omega)) (nI_clamp (by omega)) dX8_advance_115 ?_
        refine mcU hf hk hst hw (c_X2_fears l g k1 2 RX2 TX2 0 (fogs (st % 6)) rfl) (va_cwO 1 hts gX8_advance_X2_fears_u87X2 rfl rfl rfl w_18 hdU_LightMan_Kind_fears ⟨Nat.le_of_ble_eq_true rfl, Nat.le_of_ble_eq_true rfl⟩) [10] rfl rfl 10 rfl rfl rfl hl.1 rfl (Nat.le_of_ble_eq_true rfl) dX8_advance_116 ⟨Nat.zero_le _, Nat.zero_le _⟩ (W' := [cob t 8 [.ref ak, .ref tl, .ref tf, .ref ta, .ref tk, .ref tg, .ref tp, .ref tm, .int (nI cnt), .int (nI stp), .int z], cin g tl 4 laws, cin g tf 6 fogs, cin g ta 6 arms, cin g tk 8 kinds, cin g tg 8 faiths, cin g tp 8 places, cin g tm 8 moved, ckd g ak 6 (kdf k0 k1 k2 k3 k4 k5), cob k0 4 [], cob k1 2 [], cob k2 5 [], cob k3 6 [], cob k4 9 [], cob k5 1 []]) rfl (fun H locs hw => ?_)
        refine lv_isub hx hb dX8_advance_119 ?_
        refine mcN hf hk hst hw (c_X10_heldFaith l g ((faiths k) - (2 - 3))) ⟨va_cnB 1 hts gX8_advance_X10_heldFaith_n79 rfl rfl rfl hk.2.1.2 (hts _ w_2) hdS_X10_heldFaith ⟨Nat.le_of_ble_eq_true rfl, Nat.le_of_ble_eq_true rfl⟩, hts _ w_6, trivial⟩ [] rfl rfl rfl hl.1 rfl (Nat.le_of_ble_eq_true rfl) dX8_advance_120 ⟨Nat.zero_le _, Nat.zero_le _⟩ (W' := [cob t 8 [.ref ak, .ref tl, .ref tf, .ref ta, .ref tk, .ref tg, .ref tp, .ref tm, .int (nI cnt), .int (nI stp), .int z], cin g tl 4 laws, cin g tf 6 fogs, cin g ta 6 arms, cin g tk 8 kinds, cin g tg 8 faiths, cin g tp 8 places, cin g tm 8 moved, ckd g ak 6 (kdf k0 k1 k2 k3 k4 k5), cob k0 4 [], cob k1 2 [], cob k2 5 [], cob k3 6 [], cob k4 9 [], cob k5 1 []]) rfl (fun H locs hw => ?_)
        refine rsj hf hk hw 5 rfl (j := k) (vp_in_nI (by omega) (by omega)) (nI_clamp (by omega)) dX8_advance_123 (W' := [cob t 8 [.ref ak, .ref tl, .ref tf, .ref ta, .ref tk, .ref tg, .ref tp, .ref tm, .int (nI cnt), .int (nI stp), .int z], cin g tl 4 laws, cin g tf 6 fogs, cin g ta 6 arms, cin g tk 8 kinds, cin g tg 8 (upd faiths k (mmax32 0 (mmin32 99 ((faiths k) - (2 - 3))))), cin g tp 8 places, cin g tm 8 moved, ckd g ak 6 (kdf k0 k1 k2 k3 k4 k5), cob k0 4 [], cob k1 2 [], cob k2 5 [], cob k3 6 [], cob k4 9 [], cob k5 1 []]) rfl (fun H locs hw => ?_)
        refine lv_aload_n hx hb dX8_advance_124 rfl (lv_at hl 3 rfl) ?_
        refine rg hf hk hw hinX8 0 rfl rfl 5 (by decide) w_4 rfl dX8_advance_125 ?_
        refine lv_iload_n hx hb dX8_advance_128 rfl (lv_at hl 4 rfl) ?_
        refine rij hf hk hw 5 rfl (j := k) (vp_in_nI (by omega) (by omega)) (nI_clamp (by omega)) dX8_advance_129 ?_
        refine lv_tope (y := mmax32 0 (mmin32 99 ((faiths k) - (2 - 3)))) pk_us ?_
        refine lv_aload_n hx hb dX8_advance_130 rfl (lv_at hl 3 rfl) ?_
        refine rg hf hk hw hinX8 0 rfl rfl 1 (by decide) w_7 rfl dX8_advance_131 ?_
        refine lv_iconst (v := 1) hx hb dX8_advance_134 (by decide) ?_
        refine rij hf hk hw 1 rfl (j := 1) (vp_in_nI (n := 1) (by omega) (by omega)) (rfl) dX8_advance_135 ?_
        refine lv_icmp_ge (tgt := 159) hx hb dX8_advance_136 (by decide) (fun c_9 => ?_) (fun c_9 => ?_)
        · refine lv_aload_n hx hb dX8_advance_159 rfl (lv_at hl 3 rfl) ?_
          refine rg hf hk hw hinX8 0 rfl rfl 5 (by decide) w_4 rfl dX8_advance_160 ?_
          refine lv_iload_n hx hb dX8_advance_163 rfl (lv_at hl 4 rfl) ?_
          refine rij hf hk hw 5 rfl (j := k) (vp_in_nI (by omega) (by omega)) (nI_clamp (by omega)) dX8_advance_164 ?_
          refine lv_tope (y := mmax32 0 (mmin32 99 ((faiths k) - (2 - 3)))) pk_us ?_
          refine lv_aload_n hx hb dX8_advance_165 rfl (lv_at hl 3 rfl) ?_
          refine rg hf hk hw hinX8 0 rfl rfl 1 (by decide) w_7 rfl dX8_advance_166 ?_
          refine lv_iconst (v := 2) hx hb dX8_advance_169 (by decide) ?_
          refine rij hf hk hw 1 rfl (j := 2) (vp_in_nI (n := 2) (by omega) (by omega)) (rfl) dX8_advance_170 ?_
          refine lv_icmp_le (tgt := 176) hx hb dX8_advance_171 (by decide) (fun c_10 => ?_) (fun c_10 => ?_)
          · refine lv_aload_n hx hb dX8_advance_176 rfl (lv_at hl 3 rfl) ?_
            refine rg hf hk hw hinX8 0 rfl rfl 6 (by decide) w_8 rfl dX8_advance_177 ?_
            refine lv_iload_n hx hb dX8_advance_180 rfl (lv_at hl 4 rfl) ?_
            refine lv_bipush (v := 12) hx hb dX8_advance_181 (by decide) ?_
            refine lv_aload_n hx hb dX8_advance_183 rfl (lv_at hl 3 rfl) ?_
            refine rg hf hk hw hinX8 0 rfl rfl 6 (by decide) w_8 rfl dX8_advance_184 ?_
            refine lv_iload_n hx hb dX8_advance_187 rfl (lv_at hl 4 rfl) ?_
            refine rij hf hk hw 6 rfl (j := k) (vp_in_nI (by omega) (by omega)) (nI_clamp (by omega)) dX8_advance_188 ?_
            refine lv_aload_n hx hb dX8_advance_189 rfl (lv_at hl 2 rfl) ?_
            refine lv_iload_n hx hb dX8_advance_190 rfl (lv_at hl 5 rfl) ?_
            refine lv_iload hx hb dX8_advance_191 (lv_at hl 0 rfl) ?_
            refine mcU hf hk hst hw (c_X2_pace l g k1 2 RX2 TX2 0 (nI st) (seesF (kinds k) (fogs (st % 6)) (arms (st % 6)) (laws 0) (places k)) rfl) (va_cwO 2 hts gX8_advance_X2_pace_u93X2 rfl rfl rfl w_19 hdU_LightMan_Kind_pace ⟨Nat.le_of_ble_eq_true rfl, Nat.le_of_ble_eq_true rfl⟩) [10] rfl rfl 10 rfl rfl rfl hl.1 rfl (Nat.le_of_ble_eq_true rfl) dX8_advance_193 ⟨Nat.zero_le _, Nat.zero_le _⟩ (W' := [cob t 8 [.ref ak, .ref tl, .ref tf, .ref ta, .ref tk, .ref tg, .ref tp, .ref tm, .int (nI cnt), .int (nI stp), .int z], cin g tl 4 laws, cin g tf 6 fogs, cin g ta 6 arms, cin g tk 8 kinds, cin g tg 8 (upd faiths k (mmax32 0 (mmin32 99 ((faiths k) - (2 - 3))))), cin g tp 8 places, cin g tm 8 moved, ckd g ak 6 (kdf k0 k1 k2 k3 k4 k5), cob k0 4 [], cob k1 2 [], cob k2 5 [], cob k3 6 [], cob k4 9 [], cob k5 1 []]) rfl (fun H locs hw => ?_)
            refine lv_iadd hx hb dX8_advance_196 ?_
            refine rmmin hx hb (hf.2.2.1.trans hl.1.symm) hf.2.2.2.1 (hts _ w_9) (hts _ w_10) (hts _ w_11) (hts _ w_12) (Nat.le_of_ble_eq_true rfl) (Nat.le_of_ble_eq_true rfl) (Nat.zero_le _) (Nat.zero_le _) dX8_advance_197 ?_
            refine rsj hf hk hw 6 rfl (j := k) (vp_in_nI (by omega) (by omega)) (nI_clamp (by omega)) dX8_advance_200 (W' := [cob t 8 [.ref ak, .ref tl, .ref tf, .ref ta, .ref tk, .ref tg, .ref tp, .ref tm, .int (nI cnt), .int (nI stp), .int z], cin g tl 4 laws, cin g tf 6 fogs, cin g ta 6 arms, cin g tk 8 kinds, cin g tg 8 (upd faiths k (mmax32 0 (mmin32 99 ((faiths k) - (2 - 3))))), cin g tp 8 (upd places k (mmin32 12 ((places k) + (1 + 2)))), cin g tm 8 moved, ckd g ak 6 (kdf k0 k1 k2 k3 k4 k5), cob k0 4 [], cob k1 2 [], cob k2 5 [], cob k3 6 [], cob k4 9 [], cob k5 1 []]) rfl (fun H locs hw => ?_)
            refine lv_iconst (v := 1) hx hb dX8_advance_201 (by decide) ?_
            have hfa : vF (kinds k) (fogs (st % 6)) (arms (st % 6)) (laws 0) (faiths k) (places k) = (mmax32 0 (mmin32 99 ((faiths k) - (2 - 3)))) := by unfold vF; rw [if_pos c_8, e_2]; rfl
            have hpa : ∀ x : Int32, paceF (kinds k) (nI st) x = (1 + 2) := by intro x; rw [e_2]; rfl
            exact re_i hf hr hlk hw (by simp only [n1D, vD, if_pos c_1, if_pos c_8, hfa, if_pos c_9, if_pos c_10, hpa]) (by simp only [aG, vP, vM, upd_id, if_pos c_1, if_pos c_8, hfa, if_pos c_9, if_pos c_10, hpa]) dX8_advance_202
          · refine lv_iconst (v := 2) hx hb dX8_advance_174 (by decide) ?_
            have hfa : vF (kinds k) (fogs (st % 6)) (arms (st % 6)) (laws 0) (faiths k) (places k) = (mmax32 0 (mmin32 99 ((faiths k) - (2 - 3)))) := by unfold vF; rw [if_pos c_8, e_2]; rfl
            exact re_i hf hr hlk hw (by simp only [n1D, vD, if_pos c_1, if_pos c_8, hfa, if_pos c_9, if_neg c_10]) (by simp only [aG, vP, vM, upd_id, if_pos c_1, if_pos c_8, hfa, if_pos c_9, if_neg c_10]) dX8_advance_175
        · refine lv_aload_n hx hb dX8_advance_139 rfl (lv_at hl 3 rfl) ?_
          refine rg hf hk hw hinX8 0 rfl rfl 6 (by decide) w_8 rfl dX8_advance_140 ?_
          refine lv_iload_n hx hb dX8_advance_143 rfl (lv_at hl 4 rfl) ?_
          refine lv_iconst (v := 0) hx hb dX8_advance_144 (by decide) ?_
          refine lv_aload_n hx hb dX8_advance_145 rfl (lv_at hl 3 rfl) ?_
          refine rg hf hk hw hinX8 0 rfl rfl 6 (by decide) w_8 rfl dX8_advance_146 ?_
          refine lv_iload_n hx hb dX8_advance_149 rfl (lv_at hl 4 rfl) ?_
          refine rij hf hk hw 6 rfl (j := k) (vp_in_nI (by omega) (by omega)) (nI_clamp (by omega)) dX8_advance_150 ?_
          refine lv_iconst (v := 1) hx hb dX8_advance_151 (by decide) ?_
          refine lv_isub hx hb dX8_advance_152 ?_
          refine rmmax hx hb (hf.2.2.1.trans hl.1.symm) hf.2.2.2.1 (hts _ w_13) (hts _ w_14) (hts _ w_11) (hts _ w_15) (Nat.le_of_ble_eq_true rfl) (Nat.le_of_ble_eq_true rfl) (Nat.zero_le _) (Nat.zero_le _) dX8_advance_153 ?_
          refine rsj hf hk hw 6 rfl (j := k) (vp_in_nI (by omega) (by omega)) (nI_clamp (by omega)) dX8_advance_156 (W' := [cob t 8 [.ref ak, .ref tl, .ref tf, .ref ta, .ref tk, .ref tg, .ref tp, .ref tm, .int (nI cnt), .int (nI stp), .int z], cin g tl 4 laws, cin g tf 6 fogs, cin g ta 6 arms, cin g tk 8 kinds, cin g tg 8 (upd faiths k (mmax32 0 (mmin32 99 ((faiths k) - (2 - 3))))), cin g tp 8 (upd places k (mmax32 0 ((places k) - 1))), cin g tm 8 moved, ckd g ak 6 (kdf k0 k1 k2 k3 k4 k5), cob k0 4 [], cob k1 2 [], cob k2 5 [], cob k3 6 [], cob k4 9 [], cob k5 1 []]) rfl (fun H locs hw => ?_)
          refine lv_iconst (v := 3) hx hb dX8_advance_157 (by decide) ?_
          have hfa : vF (kinds k) (fogs (st % 6)) (arms (st % 6)) (laws 0) (faiths k) (places k) = (mmax32 0 (mmin32 99 ((faiths k) - (2 - 3)))) := by unfold vF; rw [if_pos c_8, e_2]; rfl
          exact re_i hf hr hlk hw (by simp only [n1D, vD, if_pos c_1, if_pos c_8, hfa, if_neg c_9]) (by simp only [aG, vP, vM, upd_id, if_pos c_1, if_pos c_8, hfa, if_neg c_9]) dX8_advance_158
      · refine lv_aload_n hx hb dX8_advance_41 rfl (lv_at hl 3 rfl) ?_
        refine rg hf hk hw hinX8 0 rfl rfl 5 (by decide) w_4 rfl dX8_advance_42 ?_
        refine lv_iload_n hx hb dX8_advance_45 rfl (lv_at hl 4 rfl) ?_
        refine lv_aload_n hx hb dX8_advance_46 rfl (lv_at hl 3 rfl) ?_
        refine rg hf hk hw hinX8 0 rfl rfl 5 (by decide) w_4 rfl dX8_advance_47 ?_
        refine lv_iload_n hx hb dX8_advance_50 rfl (lv_at hl 4 rfl) ?_
        refine rij hf hk hw 5 rfl (j := k) (vp_in_nI (by omega) (by omega)) (nI_clamp (by omega)) dX8_advance_51 ?_
        refine lv_aload_n hx hb dX8_advance_52 rfl (lv_at hl 2 rfl) ?_
        refine lv_aload_n hx hb dX8_advance_53 rfl (lv_at hl 3 rfl) ?_
        refine rg hf hk hw hinX8 0 rfl rfl 3 (by decide) w_16 rfl dX8_advance_54 ?_
        refine lv_iload hx hb dX8_advance_57 (lv_at hl 1 rfl) ?_
        refine rij hf hk hw 3 rfl (j := st % 6) (vp_in_nI (by omega) (by omega)) (nI_clamp (by omega)) dX8_advance_59 ?_
        refine lv_aload_n hx hb dX8_advance_60 rfl (lv_at hl 3 rfl) ?_
        refine rg hf hk hw hinX8 0 rfl rfl 1 (by decide) w_7 rfl dX8_advance_61 ?_
        refine lv_iconst (v := 0) hx hb dX8_advance_64 (by decide) ?_
        refine rij hf hk hw 1 rfl (j := 0) (vp_in_nI (n := 0) (by omega) (by omega)) (rfl) dX8_advance_65 ?_
        refine mcU hf hk hst hw (c_X2_keen l g k1 2 RX2 TX2 0 (arms (st % 6)) (laws 0) rfl) (va_cwO 2 hts gX8_advance_X2_keen_u75X2 rfl rfl rfl w_20 hdU_LightMan_Kind_keen ⟨Nat.le_of_ble_eq_true rfl, Nat.le_of_ble_eq_true rfl⟩) [10] rfl rfl 10 rfl rfl rfl hl.1 rfl (Nat.le_of_ble_eq_true rfl) dX8_advance_66 ⟨Nat.zero_le _, Nat.zero_le _⟩ (W' := [cob t 8 [.ref ak, .ref tl, .ref tf, .ref ta, .ref tk, .ref tg, .ref tp, .ref tm, .int (nI cnt), .int (nI stp), .int z], cin g tl 4 laws, cin g tf 6 fogs, cin g ta 6 arms, cin g tk 8 kinds, cin g tg 8 faiths, cin g tp 8 places, cin g tm 8 moved, ckd g ak 6 (kdf k0 k1 k2 k3 k4 k5), cob k0 4 [], cob k1 2 [], cob k2 5 [], cob k3 6 [], cob k4 9 [], cob k5 1 []]) rfl (fun H locs hw => ?_)
        refine lv_iadd hx hb dX8_advance_69 ?_
        refine mcN hf hk hst hw (c_X10_heldFaith l g ((faiths k) + (3 + (arms (st % 6))))) ⟨va_cnB 1 hts gX8_advance_X10_heldFaith_n79 rfl rfl rfl hk.2.1.2 (hts _ w_2) hdS_X10_heldFaith ⟨Nat.le_of_ble_eq_true rfl, Nat.le_of_ble_eq_true rfl⟩, hts _ w_6, trivial⟩ [] rfl rfl rfl hl.1 rfl (Nat.le_of_ble_eq_true rfl) dX8_advance_70 ⟨Nat.zero_le _, Nat.zero_le _⟩ (W' := [cob t 8 [.ref ak, .ref tl, .ref tf, .ref ta, .ref tk, .ref tg, .ref tp, .ref tm, .int (nI cnt), .int (nI stp), .int z], cin g tl 4 laws, cin g tf 6 fogs, cin g ta 6 arms, cin g tk 8 kinds, cin g tg 8 faiths, cin g tp 8 places, cin g tm 8 moved, ckd g ak 6 (kdf k0 k1 k2 k3 k4 k5), cob k0 4 [], cob k1 2 [], cob k2 5 [], cob k3 6 [], cob k4 9 [], cob k5 1 []]) rfl (fun H locs hw => ?_)
        refine rsj hf hk hw 5 rfl (j := k) (vp_in_nI (by omega) (by omega)) (nI_clamp (by omega)) dX8_advance_73 (W' := [cob t 8 [.ref ak, .ref tl, .ref tf, .ref ta, .ref tk, .ref tg, .ref tp, .ref tm, .int (nI cnt), .int (nI stp), .int z], cin g tl 4 laws, cin g tf 6 fogs, cin g ta 6 arms, cin g tk 8 kinds, cin g tg 8 (upd faiths k (mmax32 0 (mmin32 99 ((faiths k) + (3 + (arms (st % 6))))))), cin g tp 8 places, cin g tm 8 moved, ckd g ak 6 (kdf k0 k1 k2 k3 k4 k5), cob k0 4 [], cob k1 2 [], cob k2 5 [], cob k3 6 [], cob k4 9 [], cob k5 1 []]) rfl (fun H locs hw => ?_)
        refine lv_aload_n hx hb dX8_advance_74 rfl (lv_at hl 3 rfl) ?_
        refine rg hf hk hw hinX8 0 rfl rfl 7 (by decide) w_17 rfl dX8_advance_75 ?_
        refine lv_iload_n hx hb dX8_advance_78 rfl (lv_at hl 4 rfl) ?_
        refine lv_sipush (v := 9999) hx hb dX8_advance_79 (by decide) ?_
        refine lv_aload_n hx hb dX8_advance_82 rfl (lv_at hl 3 rfl) ?_
        refine rg hf hk hw hinX8 0 rfl rfl 7 (by decide) w_17 rfl dX8_advance_83 ?_
        refine lv_iload_n hx hb dX8_advance_86 rfl (lv_at hl 4 rfl) ?_
        refine rij hf hk hw 7 rfl (j := k) (vp_in_nI (by omega) (by omega)) (nI_clamp (by omega)) dX8_advance_87 ?_
        refine lv_iconst (v := 1) hx hb dX8_advance_88 (by decide) ?_
        refine lv_iadd hx hb dX8_advance_89 ?_
        refine rmmin hx hb (hf.2.2.1.trans hl.1.symm) hf.2.2.2.1 (hts _ w_9) (hts _ w_10) (hts _ w_11) (hts _ w_12) (Nat.le_of_ble_eq_true rfl) (Nat.le_of_ble_eq_true rfl) (Nat.zero_le _) (Nat.zero_le _) dX8_advance_90 ?_
        refine rsj hf hk hw 7 rfl (j := k) (vp_in_nI (by omega) (by omega)) (nI_clamp (by omega)) dX8_advance_93 (W' := [cob t 8 [.ref ak, .ref tl, .ref tf, .ref ta, .ref tk, .ref tg, .ref tp, .ref tm, .int (nI cnt), .int (nI stp), .int z], cin g tl 4 laws, cin g tf 6 fogs, cin g ta 6 arms, cin g tk 8 kinds, cin g tg 8 (upd faiths k (mmax32 0 (mmin32 99 ((faiths k) + (3 + (arms (st % 6))))))), cin g tp 8 places, cin g tm 8 (upd moved k (mmin32 9999 ((moved k) + 1))), ckd g ak 6 (kdf k0 k1 k2 k3 k4 k5), cob k0 4 [], cob k1 2 [], cob k2 5 [], cob k3 6 [], cob k4 9 [], cob k5 1 []]) rfl (fun H locs hw => ?_)
        refine lv_goto (tgt := 124) hx hb dX8_advance_94 (by decide) ?_
        refine lv_aload_n hx hb dX8_advance_124 rfl (lv_at hl 3 rfl) ?_
        refine rg hf hk hw hinX8 0 rfl rfl 5 (by decide) w_4 rfl dX8_advance_125 ?_
        refine lv_iload_n hx hb dX8_advance_128 rfl (lv_at hl 4 rfl) ?_
        refine rij hf hk hw 5 rfl (j := k) (vp_in_nI (by omega) (by omega)) (nI_clamp (by omega)) dX8_advance_129 ?_
        refine lv_tope (y := mmax32 0 (mmin32 99 ((faiths k) + (3 + (arms (st % 6)))))) pk_us ?_
        refine lv_aload_n hx hb dX8_advance_130 rfl (lv_at hl 3 rfl) ?_
        refine rg hf hk hw hinX8 0 rfl rfl 1 (by decide) w_7 rfl dX8_advance_131 ?_
        refine lv_iconst (v := 1) hx hb dX8_advance_134 (by decide) ?_
        refine rij hf hk hw 1 rfl (j := 1) (vp_in_nI (n := 1) (by omega) (by omega)) (rfl) dX8_advance_135 ?_
        refine lv_icmp_ge (tgt := 159) hx hb dX8_advance_136 (by decide) (fun c_11 => ?_) (fun c_11 => ?_)
        · refine lv_aload_n hx hb dX8_advance_159 rfl (lv_at hl 3 rfl) ?_
          refine rg hf hk hw hinX8 0 rfl rfl 5 (by decide) w_4 rfl dX8_advance_160 ?_
          refine lv_iload_n hx hb dX8_advance_163 rfl (lv_at hl 4 rfl) ?_
          refine rij hf hk hw 5 rfl (j := k) (vp_in_nI (by omega) (by omega)) (nI_clamp (by omega)) dX8_advance_164 ?_
          refine lv_tope (y := mmax32 0 (mmin32 99 ((faiths k) + (3 + (arms (st % 6)))))) pk_us ?_
          refine lv_aload_n hx hb dX8_advance_165 rfl (lv_at hl 3 rfl) ?_
          refine rg hf hk hw hinX8 0 rfl rfl 1 (by decide) w_7 rfl dX8_advance_166 ?_
          refine lv_iconst (v := 2) hx hb dX8_advance_169 (by decide) ?_
          refine rij hf hk hw 1 rfl (j := 2) (vp_in_nI (n := 2) (by omega) (by omega)) (rfl) dX8_advance_170 ?_
          refine lv_icmp_le (tgt := 176) hx hb dX8_advance_171 (by decide) (fun c_12 => ?_) (fun c_12 => ?_)
          · refine lv_aload_n hx hb dX8_advance_176 rfl (lv_at hl 3 rfl) ?_
            refine rg hf hk hw hinX8 0 rfl rfl 6 (by decide) w_8 rfl dX8_advance_177 ?_
            refine lv_iload_n hx hb dX8_advance_180 rfl (lv_at hl 4 rfl) ?_
            refine lv_bipush (v := 12) hx hb dX8_advance_181 (by decide) ?_
            refine lv_aload_n hx hb dX8_advance_183 rfl (lv_at hl 3 rfl) ?_
            refine rg hf hk hw hinX8 0 rfl rfl 6 (by decide) w_8 rfl dX8_advance_184 ?_
            refine lv_iload_n hx hb dX8_advance_187 rfl (lv_at hl 4 rfl) ?_
            refine rij hf hk hw 6 rfl (j := k) (vp_in_nI (by omega) (by omega)) (nI_clamp (by omega)) dX8_advance_188 ?_
            refine lv_aload_n hx hb dX8_advance_189 rfl (lv_at hl 2 rfl) ?_
            refine lv_iload_n hx hb dX8_advance_190 rfl (lv_at hl 5 rfl) ?_
            refine lv_iload hx hb dX8_advance_191 (lv_at hl 0 rfl) ?_
            refine mcU hf hk hst hw (c_X2_pace l g k1 2 RX2 TX2 0 (nI st) (seesF (kinds k) (fogs (st % 6)) (arms (st % 6)) (laws 0) (places k)) rfl) (va_cwO 2 hts gX8_advance_X2_pace_u93X2 rfl rfl rfl w_19 hdU_LightMan_Kind_pace ⟨Nat.le_of_ble_eq_true rfl, Nat.le_of_ble_eq_true rfl⟩) [10] rfl rfl 10 rfl rfl rfl hl.1 rfl (Nat.le_of_ble_eq_true rfl) dX8_advance_193 ⟨Nat.zero_le _, Nat.zero_le _⟩ (W' := [cob t 8 [.ref ak, .ref tl, .ref tf, .ref ta, .ref tk, .ref tg, .ref tp, .ref tm, .int (nI cnt), .int (nI stp), .int z], cin g tl 4 laws, cin g tf 6 fogs, cin g ta 6 arms, cin g tk 8 kinds, cin g tg 8 (upd faiths k (mmax32 0 (mmin32 99 ((faiths k) + (3 + (arms (st % 6))))))), cin g tp 8 places, cin g tm 8 (upd moved k (mmin32 9999 ((moved k) + 1))), ckd g ak 6 (kdf k0 k1 k2 k3 k4 k5), cob k0 4 [], cob k1 2 [], cob k2 5 [], cob k3 6 [], cob k4 9 [], cob k5 1 []]) rfl (fun H locs hw => ?_)
            refine lv_iadd hx hb dX8_advance_196 ?_
            refine rmmin hx hb (hf.2.2.1.trans hl.1.symm) hf.2.2.2.1 (hts _ w_9) (hts _ w_10) (hts _ w_11) (hts _ w_12) (Nat.le_of_ble_eq_true rfl) (Nat.le_of_ble_eq_true rfl) (Nat.zero_le _) (Nat.zero_le _) dX8_advance_197 ?_
            refine rsj hf hk hw 6 rfl (j := k) (vp_in_nI (by omega) (by omega)) (nI_clamp (by omega)) dX8_advance_200 (W' := [cob t 8 [.ref ak, .ref tl, .ref tf, .ref ta, .ref tk, .ref tg, .ref tp, .ref tm, .int (nI cnt), .int (nI stp), .int z], cin g tl 4 laws, cin g tf 6 fogs, cin g ta 6 arms, cin g tk 8 kinds, cin g tg 8 (upd faiths k (mmax32 0 (mmin32 99 ((faiths k) + (3 + (arms (st % 6))))))), cin g tp 8 (upd places k (mmin32 12 ((places k) + (1 + 2)))), cin g tm 8 (upd moved k (mmin32 9999 ((moved k) + 1))), ckd g ak 6 (kdf k0 k1 k2 k3 k4 k5), cob k0 4 [], cob k1 2 [], cob k2 5 [], cob k3 6 [], cob k4 9 [], cob k5 1 []]) rfl (fun H locs hw => ?_)
            refine lv_iconst (v := 1) hx hb dX8_advance_201 (by decide) ?_
            have hfa : vF (kinds k) (fogs (st % 6)) (arms (st % 6)) (laws 0) (faiths k) (places k) = (mmax32 0 (mmin32 99 ((faiths k) + (3 + (arms (st % 6)))))) := by unfold vF; rw [if_neg c_8, e_2]; rfl
            have hpa : ∀ x : Int32, paceF (kinds k) (nI st) x = (1 + 2) := by intro x; rw [e_2]; rfl
            exact re_i hf hr hlk hw (by simp only [n1D, vD, if_pos c_1, if_neg c_8, hfa, if_pos c_11, if_pos c_12, hpa]) (by simp only [aG, vP, vM, upd_id, if_pos c_1, if_neg c_8, hfa, if_pos c_11, if_pos c_12, hpa]) dX8_advance_202
          · refine lv_iconst (v := 2) hx hb dX8_advance_174 (by decide) ?_
            have hfa : vF (kinds k) (fogs (st % 6)) (arms (st % 6)) (laws 0) (faiths k) (places k) = (mmax32 0 (mmin32 99 ((faiths k) + (3 + (arms (st % 6)))))) := by unfold vF; rw [if_neg c_8, e_2]; rfl
            exact re_i hf hr hlk hw (by simp only [n1D, vD, if_pos c_1, if_neg c_8, hfa, if_pos c_11, if_neg c_12]) (by simp only [aG, vP, vM, upd_id, if_pos c_1, if_neg c_8, hfa, if_pos c_11, if_neg c_12]) dX8_advance_175
        · refine lv_aload_n hx hb dX8_advance_139 rfl (lv_at hl 3 rfl) ?_
          refine rg hf hk hw hinX8 0 rfl rfl 6 (by decide) w_8 rfl dX8_advance_140 ?_
          refine lv_iload_n hx hb dX8_advance_143 rfl (lv_at hl 4 rfl) ?_
          refine lv_iconst (v := 0) hx hb dX8_advance_144 (by decide) ?_
          refine lv_aload_n hx hb dX8_advance_145 rfl (lv_at hl 3 rfl) ?_
          refine rg hf hk hw hinX8 0 rfl rfl 6 (by decide) w_8 rfl dX8_advance_146 ?_
          refine lv_iload_n hx hb dX8_advance_149 rfl (lv_at hl 4 rfl) ?_
          refine rij hf hk hw 6 rfl (j := k) (vp_in_nI (by omega) (by omega)) (nI_clamp (by omega)) dX8_advance_150 ?_
          refine lv_iconst (v := 1) hx hb dX8_advance_151 (by decide) ?_
          refine lv_isub hx hb dX8_advance_152 ?_
          refine rmmax hx hb (hf.2.2.1.trans hl.1.symm) hf.2.2.2.1 (hts _ w_13) (hts _ w_14) (hts _ w_11) (hts _ w_15) (Nat.le_of_ble_eq_true rfl) (Nat.le_of_ble_eq_true rfl) (Nat.zero_le _) (Nat.zero_le _) dX8_advance_153 ?_
          refine rsj hf hk hw 6 rfl (j := k) (vp_in_nI (by omega) (by omega)) (nI_clamp (by omega)) dX8_advance_156 (W' := [cob t 8 [.ref ak, .ref tl, .ref tf, .ref ta, .ref tk, .ref tg, .ref tp, .ref tm, .int (nI cnt), .int (nI stp), .int z], cin g tl 4 laws, cin g tf 6 fogs, cin g ta 6 arms, cin g tk 8 kinds, cin g tg 8 (upd faiths k (mmax32 0 (mmin32 99 ((faiths k) + (3 + (arms (st % 6))))))), cin g tp 8 (upd places k (mmax32 0 ((places k) - 1))), cin g tm 8 (upd moved k (mmin32 9999 ((moved k) + 1))), ckd g ak 6 (kdf k0 k1 k2 k3 k4 k5), cob k0 4 [], cob k1 2 [], cob k2 5 [], cob k3 6 [], cob k4 9 [], cob k5 1 []]) rfl (fun H locs hw => ?_)
          refine lv_iconst (v := 3) hx hb dX8_advance_157 (by decide) ?_
          have hfa : vF (kinds k) (fogs (st % 6)) (arms (st % 6)) (laws 0) (faiths k) (places k) = (mmax32 0 (mmin32 99 ((faiths k) + (3 + (arms (st % 6)))))) := by unfold vF; rw [if_neg c_8, e_2]; rfl
          exact re_i hf hr hlk hw (by simp only [n1D, vD, if_pos c_1, if_neg c_8, hfa, if_neg c_11]) (by simp only [aG, vP, vM, upd_id, if_pos c_1, if_neg c_8, hfa, if_neg c_11]) dX8_advance_158
    · refine rkj hf hk hw 8 rfl (j := 2) (r := some k2) (by rw [e_2]; exact vp_in_nI (n := 2) (by omega) (by omega)) (by rw [e_2]; rfl) rfl dX8_advance_20 ?_
      refine lv_astore_n (lv' := [(3, .ref k2), (0, .ref t), (1, .int (nI k)), (2, .int (nI st))]) hx hb dX8_advance_21 rfl hl (by decide) rfl (fun ls hl => ?_)
      refine lv_iload_n hx hb dX8_advance_22 rfl (lv_at hl 3 rfl) ?_
      refine mcN hf hk hst hw (c_X10_restOf l g st (by omega)) ⟨va_cnB 1 hts gX8_advance_X10_restOf_n57 rfl rfl rfl hk.2.1.1 (hts _ w_2) hdS_X10_restOf ⟨Nat.le_of_ble_eq_true rfl, Nat.le_of_ble_eq_true rfl⟩, hts _ w_3, trivial⟩ [] rfl rfl rfl hl.1 rfl (Nat.le_of_ble_eq_true rfl) dX8_advance_23 ⟨Nat.zero_le _, Nat.zero_le _⟩ (W' := [cob t 8 [.ref ak, .ref tl, .ref tf, .ref ta, .ref tk, .ref tg, .ref tp, .ref tm, .int (nI cnt), .int (nI stp), .int z], cin g tl 4 laws, cin g tf 6 fogs, cin g ta 6 arms, cin g tk 8 kinds, cin g tg 8 faiths, cin g tp 8 places, cin g tm 8 moved, ckd g ak 6 (kdf k0 k1 k2 k3 k4 k5), cob k0 4 [], cob k1 2 [], cob k2 5 [], cob k3 6 [], cob k4 9 [], cob k5 1 []]) rfl (fun H locs hw => ?_)
      refine lv_istore (lv' := [(4, .int (nI (st % 6))), (3, .ref k2), (0, .ref t), (1, .int (nI k)), (2, .int (nI st))]) hx hb dX8_advance_26 hl (by decide) rfl (fun ls hl => ?_)
      refine lv_aload_n hx hb dX8_advance_28 rfl (lv_at hl 2 rfl) ?_
      refine lv_iload_n hx hb dX8_advance_29 rfl (lv_at hl 3 rfl) ?_
      refine lv_iload_n hx hb dX8_advance_30 rfl (lv_at hl 4 rfl) ?_
      refine mcV hf hk hst hw (c_X8_sees l g t tl tf ta tk tg tp tm laws fogs arms kinds faiths places moved cnt stp z ak k0 k1 k2 k3 k4 k5 k st (by omega) (by omega) (by assumption)) (cwV 2 hts gX8_advance_X8_sees rfl rfl rfl hdV_X8_sees ⟨Nat.le_of_ble_eq_true rfl, Nat.le_of_ble_eq_true rfl⟩) [0, 1, 2, 3, 4, 5, 6, 7, 8, 9, 10, 11, 12, 13, 14] rfl rfl 0 rfl rfl rfl hl.1 rfl (Nat.le_of_ble_eq_true rfl) dX8_advance_31 ⟨Nat.zero_le _, Nat.zero_le _⟩ (W' := [cob t 8 [.ref ak, .ref tl, .ref tf, .ref ta, .ref tk, .ref tg, .ref tp, .ref tm, .int (nI cnt), .int (nI stp), .int z], cin g tl 4 laws, cin g tf 6 fogs, cin g ta 6 arms, cin g tk 8 kinds, cin g tg 8 faiths, cin g tp 8 places, cin g tm 8 moved, ckd g ak 6 (kdf k0 k1 k2 k3 k4 k5), cob k0 4 [], cob k1 2 [], cob k2 5 [], cob k3 6 [], cob k4 9 [], cob k5 1 []]) rfl (fun H locs hw => ?_)
      refine lv_istore (lv' := [(5, .int (seesF (kinds k) (fogs (st % 6)) (arms (st % 6)) (laws 0) (places k))), (4, .int (nI (st % 6))), (3, .ref k2), (0, .ref t), (1, .int (nI k)), (2, .int (nI st))]) hx hb dX8_advance_34 hl (by decide) rfl (fun ls hl => ?_)
      refine lv_iload hx hb dX8_advance_36 (lv_at hl 0 rfl) ?_
      refine lv_if_eq (tgt := 97) hx hb dX8_advance_38 (by decide) (fun c_13 => ?_) (fun c_13 => ?_)
      · refine lv_aload_n hx hb dX8_advance_97 rfl (lv_at hl 3 rfl) ?_
        refine rg hf hk hw hinX8 0 rfl rfl 5 (by decide) w_4 rfl dX8_advance_98 ?_
        refine lv_iload_n hx hb dX8_advance_101 rfl (lv_at hl 4 rfl) ?_
        refine lv_aload_n hx hb dX8_advance_102 rfl (lv_at hl 3 rfl) ?_
        refine rg hf hk hw hinX8 0 rfl rfl 5 (by decide) w_4 rfl dX8_advance_103 ?_
        refine lv_iload_n hx hb dX8_advance_106 rfl (lv_at hl 4 rfl) ?_
        refine rij hf hk hw 5 rfl (j := k) (vp_in_nI (by omega) (by omega)) (nI_clamp (by omega)) dX8_advance_107 ?_
        refine lv_aload_n hx hb dX8_advance_108 rfl (lv_at hl 2 rfl) ?_
        refine lv_aload_n hx hb dX8_advance_109 rfl (lv_at hl 3 rfl) ?_
        refine rg hf hk hw hinX8 0 rfl rfl 2 (by decide) w_5 rfl dX8_advance_110 ?_
        refine lv_iload hx hb dX8_advance_113 (lv_at hl 1 rfl) ?_
        refine rij hf hk hw 2 rfl (j := st % 6) (vp_in_nI (by omega) (by omega)) (nI_clamp (by omega)) dX8_advance_115 ?_
        refine mcU hf hk hst hw (c_X5_fears l g k2 5 RX5 TX5 0 (fogs (st % 6)) rfl) (va_cwO 1 hts gX8_advance_X5_fears_u87X5 rfl rfl rfl w_18 hdU_LightMan_Kind_fears ⟨Nat.le_of_ble_eq_true rfl, Nat.le_of_ble_eq_true rfl⟩) [11] rfl rfl 11 rfl rfl rfl hl.1 rfl (Nat.le_of_ble_eq_true rfl) dX8_advance_116 ⟨Nat.zero_le _, Nat.zero_le _⟩ (W' := [cob t 8 [.ref ak, .ref tl, .ref tf, .ref ta, .ref tk, .ref tg, .ref tp, .ref tm, .int (nI cnt), .int (nI stp), .int z], cin g tl 4 laws, cin g tf 6 fogs, cin g ta 6 arms, cin g tk 8 kinds, cin g tg 8 faiths, cin g tp 8 places, cin g tm 8 moved, ckd g ak 6 (kdf k0 k1 k2 k3 k4 k5), cob k0 4 [], cob k1 2 [], cob k2 5 [], cob k3 6 [], cob k4 9 [], cob k5 1 []]) rfl (fun H locs hw => ?_)
        refine lv_isub hx hb dX8_advance_119 ?_
        refine mcN hf hk hst hw (c_X10_heldFaith l g ((faiths k) - (2 + 1))) ⟨va_cnB 1 hts gX8_advance_X10_heldFaith_n79 rfl rfl rfl hk.2.1.2 (hts _ w_2) hdS_X10_heldFaith ⟨Nat.le_of_ble_eq_true rfl, Nat.le_of_ble_eq_true rfl⟩, hts _ w_6, trivial⟩ [] rfl rfl rfl hl.1 rfl (Nat.le_of_ble_eq_true rfl) dX8_advance_120 ⟨Nat.zero_le _, Nat.zero_le _⟩ (W' := [cob t 8 [.ref ak, .ref tl, .ref tf, .ref ta, .ref tk, .ref tg, .ref tp, .ref tm, .int (nI cnt), .int (nI stp), .int z], cin g tl 4 laws, cin g tf 6 fogs, cin g ta 6 arms, cin g tk 8 kinds, cin g tg 8 faiths, cin g tp 8 places, cin g tm 8 moved, ckd g ak 6 (kdf k0 k1 k2 k3 k4 k5), cob k0 4 [], cob k1 2 [], cob k2 5 [], cob k3 6 [], cob k4 9 [], cob k5 1 []]) rfl (fun H locs hw => ?_)
        refine rsj hf hk hw 5 rfl (j := k) (vp_in_nI (by omega) (by omega)) (nI_clamp (by omega)) dX8_advance_123 (W' := [cob t 8 [.ref ak, .ref tl, .ref tf, .ref ta, .ref tk, .ref tg, .ref tp, .ref tm, .int (nI cnt), .int (nI stp), .int z], cin g tl 4 laws, cin g tf 6 fogs, cin g ta 6 arms, cin g tk 8 kinds, cin g tg 8 (upd faiths k (mmax32 0 (mmin32 99 ((faiths k) - (2 + 1))))), cin g tp 8 places, cin g tm 8 moved, ckd g ak 6 (kdf k0 k1 k2 k3 k4 k5), cob k0 4 [], cob k1 2 [], cob k2 5 [], cob k3 6 [], cob k4 9 [], cob k5 1 []]) rfl (fun H locs hw => ?_)
        refine lv_aload_n hx hb dX8_advance_124 rfl (lv_at hl 3 rfl) ?_
        refine rg hf hk hw hinX8 0 rfl rfl 5 (by decide) w_4 rfl dX8_advance_125 ?_
        refine lv_iload_n hx hb dX8_advance_128 rfl (lv_at hl 4 rfl) ?_
        refine rij hf hk hw 5 rfl (j := k) (vp_in_nI (by omega) (by omega)) (nI_clamp (by omega)) dX8_advance_129 ?_
        refine lv_tope (y := mmax32 0 (mmin32 99 ((faiths k) - (2 + 1)))) pk_us ?_
        refine lv_aload_n hx hb dX8_advance_130 rfl (lv_at hl 3 rfl) ?_
        refine rg hf hk hw hinX8 0 rfl rfl 1 (by decide) w_7 rfl dX8_advance_131 ?_
        refine lv_iconst (v := 1) hx hb dX8_advance_134 (by decide) ?_
        refine rij hf hk hw 1 rfl (j := 1) (vp_in_nI (n := 1) (by omega) (by omega)) (rfl) dX8_advance_135 ?_
        refine lv_icmp_ge (tgt := 159) hx hb dX8_advance_136 (by decide) (fun c_14 => ?_) (fun c_14 => ?_)
        · refine lv_aload_n hx hb dX8_advance_159 rfl (lv_at hl 3 rfl) ?_
          refine rg hf hk hw hinX8 0 rfl rfl 5 (by decide) w_4 rfl dX8_advance_160 ?_
          refine lv_iload_n hx hb dX8_advance_163 rfl (lv_at hl 4 rfl) ?_
          refine rij hf hk hw 5 rfl (j := k) (vp_in_nI (by omega) (by omega)) (nI_clamp (by omega)) dX8_advance_164 ?_
          refine lv_tope (y := mmax32 0 (mmin32 99 ((faiths k) - (2 + 1)))) pk_us ?_
          refine lv_aload_n hx hb dX8_advance_165 rfl (lv_at hl 3 rfl) ?_
          refine rg hf hk hw hinX8 0 rfl rfl 1 (by decide) w_7 rfl dX8_advance_166 ?_
          refine lv_iconst (v := 2) hx hb dX8_advance_169 (by decide) ?_
          refine rij hf hk hw 1 rfl (j := 2) (vp_in_nI (n := 2) (by omega) (by omega)) (rfl) dX8_advance_170 ?_
          refine lv_icmp_le (tgt := 176) hx hb dX8_advance_171 (by decide) (fun c_15 => ?_) (fun c_15 => ?_)
          · refine lv_aload_n hx hb dX8_advance_176 rfl (lv_at hl 3 rfl) ?_
            refine rg hf hk hw hinX8 0 rfl rfl 6 (by decide) w_8 rfl dX8_advance_177 ?_
            refine lv_iload_n hx hb dX8_advance_180 rfl (lv_at hl 4 rfl) ?_
            refine lv_bipush (v := 12) hx hb dX8_advance_181 (by decide) ?_
            refine lv_aload_n hx hb dX8_advance_183 rfl (lv_at hl 3 rfl) ?_
            refine rg hf hk hw hinX8 0 rfl rfl 6 (by decide) w_8 rfl dX8_advance_184 ?_
            refine lv_iload_n hx hb dX8_advance_187 rfl (lv_at hl 4 rfl) ?_
            refine rij hf hk hw 6 rfl (j := k) (vp_in_nI (by omega) (by omega)) (nI_clamp (by omega)) dX8_advance_188 ?_
            refine lv_aload_n hx hb dX8_advance_189 rfl (lv_at hl 2 rfl) ?_
            refine lv_iload_n hx hb dX8_advance_190 rfl (lv_at hl 5 rfl) ?_
            refine lv_iload hx hb dX8_advance_191 (lv_at hl 0 rfl) ?_
            refine mcU hf hk hst hw (c_X4_pace l g k2 (nI st) (seesF (kinds k) (fogs (st % 6)) (arms (st % 6)) (laws 0) (places k))) (va_cwU 2 hts gX8_advance_X4_pace_u93X5 rfl rfl rfl rfl hdU_LightMan_Kind_pace ⟨Nat.le_of_ble_eq_true rfl, Nat.le_of_ble_eq_true rfl⟩) [] rfl rfl 11 rfl rfl rfl hl.1 rfl (Nat.le_of_ble_eq_true rfl) dX8_advance_193 ⟨Nat.zero_le _, Nat.zero_le _⟩ (W' := [cob t 8 [.ref ak, .ref tl, .ref tf, .ref ta, .ref tk, .ref tg, .ref tp, .ref tm, .int (nI cnt), .int (nI stp), .int z], cin g tl 4 laws, cin g tf 6 fogs, cin g ta 6 arms, cin g tk 8 kinds, cin g tg 8 (upd faiths k (mmax32 0 (mmin32 99 ((faiths k) - (2 + 1))))), cin g tp 8 places, cin g tm 8 moved, ckd g ak 6 (kdf k0 k1 k2 k3 k4 k5), cob k0 4 [], cob k1 2 [], cob k2 5 [], cob k3 6 [], cob k4 9 [], cob k5 1 []]) rfl (fun H locs hw => ?_)
            refine lv_iadd hx hb dX8_advance_196 ?_
            refine rmmin hx hb (hf.2.2.1.trans hl.1.symm) hf.2.2.2.1 (hts _ w_9) (hts _ w_10) (hts _ w_11) (hts _ w_12) (Nat.le_of_ble_eq_true rfl) (Nat.le_of_ble_eq_true rfl) (Nat.zero_le _) (Nat.zero_le _) dX8_advance_197 ?_
            refine rsj hf hk hw 6 rfl (j := k) (vp_in_nI (by omega) (by omega)) (nI_clamp (by omega)) dX8_advance_200 (W' := [cob t 8 [.ref ak, .ref tl, .ref tf, .ref ta, .ref tk, .ref tg, .ref tp, .ref tm, .int (nI cnt), .int (nI stp), .int z], cin g tl 4 laws, cin g tf 6 fogs, cin g ta 6 arms, cin g tk 8 kinds, cin g tg 8 (upd faiths k (mmax32 0 (mmin32 99 ((faiths k) - (2 + 1))))), cin g tp 8 (upd places k (mmin32 12 ((places k) + 1))), cin g tm 8 moved, ckd g ak 6 (kdf k0 k1 k2 k3 k4 k5), cob k0 4 [], cob k1 2 [], cob k2 5 [], cob k3 6 [], cob k4 9 [], cob k5 1 []]) rfl (fun H locs hw => ?_)
            refine lv_iconst (v := 1) hx hb dX8_advance_201 (by decide) ?_
            have hfa : vF (kinds k) (fogs (st % 6)) (arms (st % 6)) (laws 0) (faiths k) (places k) = (mmax32 0 (mmin32 99 ((faiths k) - (2 + 1)))) := by unfold vF; rw [if_pos c_13, e_2]; rfl
            have hpa : ∀ x : Int32, paceF (kinds k) (nI st) x = 1 := by intro x; rw [e_2]; rfl
            exact re_i hf hr hlk hw (by simp only [n1D, vD, if_pos c_1, if_pos c_13, hfa, if_pos c_14, if_pos c_15, hpa]) (by simp only [aG, vP, vM, upd_id, if_pos c_1, if_pos c_13, hfa, if_pos c_14, if_pos c_15, hpa]) dX8_advance_202
          · refine lv_iconst (v := 2) hx hb dX8_advance_174 (by decide) ?_
            have hfa : vF (kinds k) (fogs (st % 6)) (arms (st % 6)) (laws 0) (faiths k) (places k) = (mmax32 0 (mmin32 99 ((faiths k) - (2 + 1)))) := by unfold vF; rw [if_pos c_13, e_2]; rfl
            exact re_i hf hr hlk hw (by simp only [n1D, vD, if_pos c_1, if_pos c_13, hfa, if_pos c_14, if_neg c_15]) (by simp only [aG, vP, vM, upd_id, if_pos c_1, if_pos c_13, hfa, if_pos c_14, if_neg c_15]) dX8_advance_175
        · refine lv_aload_n hx hb dX8_advance_139 rfl (lv_at hl 3 rfl) ?_
          refine rg hf hk hw hinX8 0 rfl rfl 6 (by decide) w_8 rfl dX8_advance_140 ?_
          refine lv_iload_n hx hb dX8_advance_143 rfl (lv_at hl 4 rfl) ?_
          refine lv_iconst (v := 0) hx hb dX8_advance_144 (by decide) ?_
          refine lv_aload_n hx hb dX8_advance_145 rfl (lv_at hl 3 rfl) ?_
          refine rg hf hk hw hinX8 0 rfl rfl 6 (by decide) w_8 rfl dX8_advance_146 ?_
          refine lv_iload_n hx hb dX8_advance_149 rfl (lv_at hl 4 rfl) ?_
          refine rij hf hk hw 6 rfl (j := k) (vp_in_nI (by omega) (by omega)) (nI_clamp (by omega)) dX8_advance_150 ?_
          refine lv_iconst (v := 1) hx hb dX8_advance_151 (by decide) ?_
          refine lv_isub hx hb dX8_advance_152 ?_
          refine rmmax hx hb (hf.2.2.1.trans hl.1.symm) hf.2.2.2.1 (hts _ w_13) (hts _ w_14) (hts _ w_11) (hts _ w_15) (Nat.le_of_ble_eq_true rfl) (Nat.le_of_ble_eq_true rfl) (Nat.zero_le _) (Nat.zero_le _) dX8_advance_153 ?_
          refine rsj hf hk hw 6 rfl (j := k) (vp_in_nI (by omega) (by omega)) (nI_clamp (by omega)) dX8_advance_156 (W' := [cob t 8 [.ref ak, .ref tl, .ref tf, .ref ta, .ref tk, .ref tg, .ref tp, .ref tm, .int (nI cnt), .int (nI stp), .int z], cin g tl 4 laws, cin g tf 6 fogs, cin g ta 6 arms, cin g tk 8 kinds, cin g tg 8 (upd faiths k (mmax32 0 (mmin32 99 ((faiths k) - (2 + 1))))), cin g tp 8 (upd places k (mmax32 0 ((places k) - 1))), cin g tm 8 moved, ckd g ak 6 (kdf k0 k1 k2 k3 k4 k5), cob k0 4 [], cob k1 2 [], cob k2 5 [], cob k3 6 [], cob k4 9 [], cob k5 1 []]) rfl (fun H locs hw => ?_)
          refine lv_iconst (v := 3) hx hb dX8_advance_157 (by decide) ?_
          have hfa : vF (kinds k) (fogs (st % 6)) (arms (st % 6)) (laws 0) (faiths k) (places k) = (mmax32 0 (mmin32 99 ((faiths k) - (2 + 1)))) := by unfold vF; rw [if_pos c_13, e_2]; rfl
          exact re_i hf hr hlk hw (by simp only [n1D, vD, if_pos c_1, if_pos c_13, hfa, if_neg c_14]) (by simp only [aG, vP, vM, upd_id, if_pos c_1, if_pos c_13, hfa, if_neg c_14]) dX8_advance_158
      · refine lv_aload_n hx hb dX8_advance_41 rfl (lv_at hl 3 rfl) ?_
        refine rg hf hk hw hinX8 0 rfl rfl 5 (by decide) w_4 rfl dX8_advance_42 ?_
        refine lv_iload_n hx hb dX8_advance_45 rfl (lv_at hl 4 rfl) ?_
        refine lv_aload_n hx hb dX8_advance_46 rfl (lv_at hl 3 rfl) ?_
        refine rg hf hk hw hinX8 0 rfl rfl 5 (by decide) w_4 rfl dX8_advance_47 ?_
        refine lv_iload_n hx hb dX8_advance_50 rfl (lv_at hl 4 rfl) ?_
        refine rij hf hk hw 5 rfl (j := k) (vp_in_nI (by omega) (by omega)) (nI_clamp (by omega)) dX8_advance_51 ?_
        refine lv_aload_n hx hb dX8_advance_52 rfl (lv_at hl 2 rfl) ?_
        refine lv_aload_n hx hb dX8_advance_53 rfl (lv_at hl 3 rfl) ?_
        refine rg hf hk hw hinX8 0 rfl rfl 3 (by decide) w_16 rfl dX8_advance_54 ?_
        refine lv_iload hx hb dX8_advance_57 (lv_at hl 1 rfl) ?_
        refine rij hf hk hw 3 rfl (j := st % 6) (vp_in_nI (by omega) (by omega)) (nI_clamp (by omega)) dX8_advance_59 ?_
        refine lv_aload_n hx hb dX8_advance_60 rfl (lv_at hl 3 rfl) ?_
        refine rg hf hk hw hinX8 0 rfl rfl 1 (by decide) w_7 rfl dX8_advance_61 ?_
        refine lv_iconst (v := 0) hx hb dX8_advance_64 (by decide) ?_
        refine rij hf hk hw 1 rfl (j := 0) (vp_in_nI (n := 0) (by omega) (by omega)) (rfl) dX8_advance_65 ?_
        refine mcU hf hk hst hw (c_X5_keen l g k2 5 RX5 TX5 0 (arms (st % 6)) (laws 0) rfl) (va_cwO 2 hts gX8_advance_X5_keen_u75X5 rfl rfl rfl w_20 hdU_LightMan_Kind_keen ⟨Nat.le_of_ble_eq_true rfl, Nat.le_of_ble_eq_true rfl⟩) [11] rfl rfl 11 rfl rfl rfl hl.1 rfl (Nat.le_of_ble_eq_true rfl) dX8_advance_66 ⟨Nat.zero_le _, Nat.zero_le _⟩ (W' := [cob t 8 [.ref ak, .ref tl, .ref tf, .ref ta, .ref tk, .ref tg, .ref tp, .ref tm, .int (nI cnt), .int (nI stp), .int z], cin g tl 4 laws, cin g tf 6 fogs, cin g ta 6 arms, cin g tk 8 kinds, cin g tg 8 faiths, cin g tp 8 places, cin g tm 8 moved, ckd g ak 6 (kdf k0 k1 k2 k3 k4 k5), cob k0 4 [], cob k1 2 [], cob k2 5 [], cob k3 6 [], cob k4 9 [], cob k5 1 []]) rfl (fun H locs hw => ?_)
        refine lv_iadd hx hb dX8_advance_69 ?_
        refine mcN hf hk hst hw (c_X10_heldFaith l g ((faiths k) + (3 * 2))) ⟨va_cnB 1 hts gX8_advance_X10_heldFaith_n79 rfl rfl rfl hk.2.1.2 (hts _ w_2) hdS_X10_heldFaith ⟨Nat.le_of_ble_eq_true rfl, Nat.le_of_ble_eq_true rfl⟩, hts _ w_6, trivial⟩ [] rfl rfl rfl hl.1 rfl (Nat.le_of_ble_eq_true rfl) dX8_advance_70 ⟨Nat.zero_le _, Nat.zero_le _⟩ (W' := [cob t 8 [.ref ak, .ref tl, .ref tf, .ref ta, .ref tk, .ref tg, .ref tp, .ref tm, .int (nI cnt), .int (nI stp), .int z], cin g tl 4 laws, cin g tf 6 fogs, cin g ta 6 arms, cin g tk 8 kinds, cin g tg 8 faiths, cin g tp 8 places, cin g tm 8 moved, ckd g ak 6 (kdf k0 k1 k2 k3 k4 k5), cob k0 4 [], cob k1 2 [], cob k2 5 [], cob k3 6 [], cob k4 9 [], cob k5 1 []]) rfl (fun H locs hw => ?_)
        refine rsj hf hk hw 5 rfl (j := k) (vp_in_nI (by omega) (by omega)) (nI_clamp (by omega)) dX8_advance_73 (W' := [cob t 8 [.ref ak, .ref tl, .ref tf, .ref ta, .ref tk, .ref tg, .ref tp, .ref tm, .int (nI cnt), .int (nI stp), .int z], cin g tl 4 laws, cin g tf 6 fogs, cin g ta 6 arms, cin g tk 8 kinds, cin g tg 8 (upd faiths k (mmax32 0 (mmin32 99 ((faiths k) + (3 * 2))))), cin g tp 8 places, cin g tm 8 moved, ckd g ak 6 (kdf k0 k1 k2 k3 k4 k5), cob k0 4 [], cob k1 2 [], cob k2 5 [], cob k3 6 [], cob k4 9 [], cob k5 1 []]) rfl (fun H locs hw => ?_)
        refine lv_aload_n hx hb dX8_advance_74 rfl (lv_at hl 3 rfl) ?_
        refine rg hf hk hw hinX8 0 rfl rfl 7 (by decide) w_17 rfl dX8_advance_75 ?_
        refine lv_iload_n hx hb dX8_advance_78 rfl (lv_at hl 4 rfl) ?_
        refine lv_sipush (v := 9999) hx hb dX8_advance_79 (by decide) ?_
        refine lv_aload_n hx hb dX8_advance_82 rfl (lv_at hl 3 rfl) ?_
        refine rg hf hk hw hinX8 0 rfl rfl 7 (by decide) w_17 rfl dX8_advance_83 ?_
        refine lv_iload_n hx hb dX8_advance_86 rfl (lv_at hl 4 rfl) ?_
        refine rij hf hk hw 7 rfl (j := k) (vp_in_nI (by omega) (by omega)) (nI_clamp (by omega)) dX8_advance_87 ?_
        refine lv_iconst (v := 1) hx hb dX8_advance_88 (by decide) ?_
        refine lv_iadd hx hb dX8_advance_89 ?_
        refine rmmin hx hb (hf.2.2.1.trans hl.1.symm) hf.2.2.2.1 (hts _ w_9) (hts _ w_10) (hts _ w_11) (hts _ w_12) (Nat.le_of_ble_eq_true rfl) (Nat.le_of_ble_eq_true rfl) (Nat.zero_le _) (Nat.zero_le _) dX8_advance_90 ?_
        refine rsj hf hk hw 7 rfl (j := k) (vp_in_nI (by omega) (by omega)) (nI_clamp (by omega)) dX8_advance_93 (W' := [cob t 8 [.ref ak, .ref tl, .ref tf, .ref ta, .ref tk, .ref tg, .ref tp, .ref tm, .int (nI cnt), .int (nI stp), .int z], cin g tl 4 laws, cin g tf 6 fogs, cin g ta 6 arms, cin g tk 8 kinds, cin g tg 8 (upd faiths k (mmax32 0 (mmin32 99 ((faiths k) + (3 * 2))))), cin g tp 8 places, cin g tm 8 (upd moved k (mmin32 9999 ((moved k) + 1))), ckd g ak 6 (kdf k0 k1 k2 k3 k4 k5), cob k0 4 [], cob k1 2 [], cob k2 5 [], cob k3 6 [], cob k4 9 [], cob k5 1 []]) rfl (fun H locs hw => ?_)
        refine lv_goto (tgt := 124) hx hb dX8_advance_94 (by decide) ?_
        refine lv_aload_n hx hb dX8_advance_124 rfl (lv_at hl 3 rfl) ?_
        refine rg hf hk hw hinX8 0 rfl rfl 5 (by decide) w_4 rfl dX8_advance_125 ?_
        refine lv_iload_n hx hb dX8_advance_128 rfl (lv_at hl 4 rfl) ?_
        refine rij hf hk hw 5 rfl (j := k) (vp_in_nI (by omega) (by omega)) (nI_clamp (by omega)) dX8_advance_129 ?_
        refine lv_tope (y := mmax32 0 (mmin32 99 ((faiths k) + (3 * 2)))) pk_us ?_
        refine lv_aload_n hx hb dX8_advance_130 rfl (lv_at hl 3 rfl) ?_
        refine rg hf hk hw hinX8 0 rfl rfl 1 (by decide) w_7 rfl dX8_advance_131 ?_
        refine lv_iconst (v := 1) hx hb dX8_advance_134 (by decide) ?_
        refine rij hf hk hw 1 rfl (j := 1) (vp_in_nI (n := 1) (by omega) (by omega)) (rfl) dX8_advance_135 ?_
        refine lv_icmp_ge (tgt := 159) hx hb dX8_advance_136 (by decide) (fun c_16 => ?_) (fun c_16 => ?_)
        · refine lv_aload_n hx hb dX8_advance_159 rfl (lv_at hl 3 rfl) ?_
          refine rg hf hk hw hinX8 0 rfl rfl 5 (by decide) w_4 rfl dX8_advance_160 ?_
          refine lv_iload_n hx hb dX8_advance_163 rfl (lv_at hl 4 rfl) ?_
          refine rij hf hk hw 5 rfl (j := k) (vp_in_nI (by omega) (by omega)) (nI_clamp (by omega)) dX8_advance_164 ?_
          refine lv_tope (y := mmax32 0 (mmin32 99 ((faiths k) + (3 * 2)))) pk_us ?_
          refine lv_aload_n hx hb dX8_advance_165 rfl (lv_at hl 3 rfl) ?_
          refine rg hf hk hw hinX8 0 rfl rfl 1 (by decide) w_7 rfl dX8_advance_166 ?_
          refine lv_iconst (v := 2) hx hb dX8_advance_169 (by decide) ?_
          refine rij hf hk hw 1 rfl (j := 2) (vp_in_nI (n := 2) (by omega) (by omega)) (rfl) dX8_advance_170 ?_
          refine lv_icmp_le (tgt := 176) hx hb dX8_advance_171 (by decide) (fun c_17 => ?_) (fun c_17 => ?_)
          · refine lv_aload_n hx hb dX8_advance_176 rfl (lv_at hl 3 rfl) ?_
            refine rg hf hk hw hinX8 0 rfl rfl 6 (by decide) w_8 rfl dX8_advance_177 ?_
            refine lv_iload_n hx hb dX8_advance_180 rfl (lv_at hl 4 rfl) ?_
            refine lv_bipush (v := 12) hx hb dX8_advance_181 (by decide) ?_
            refine lv_aload_n hx hb dX8_advance_183 rfl (lv_at hl 3 rfl) ?_
            refine rg hf hk hw hinX8 0 rfl rfl 6 (by decide) w_8 rfl dX8_advance_184 ?_
            refine lv_iload_n hx hb dX8_advance_187 rfl (lv_at hl 4 rfl) ?_
            refine rij hf hk hw 6 rfl (j := k) (vp_in_nI (by omega) (by omega)) (nI_clamp (by omega)) dX8_advance_188 ?_
            refine lv_aload_n hx hb dX8_advance_189 rfl (lv_at hl 2 rfl) ?_
            refine lv_iload_n hx hb dX8_advance_190 rfl (lv_at hl 5 rfl) ?_
            refine lv_iload hx hb dX8_advance_191 (lv_at hl 0 rfl) ?_
            refine mcU hf hk hst hw (c_X4_pace l g k2 (nI st) (seesF (kinds k) (fogs (st % 6)) (arms (st % 6)) (laws 0) (places k))) (va_cwU 2 hts gX8_advance_X4_pace_u93X5 rfl rfl rfl rfl hdU_LightMan_Kind_pace ⟨Nat.le_of_ble_eq_true rfl, Nat.le_of_ble_eq_true rfl⟩) [] rfl rfl 11 rfl rfl rfl hl.1 rfl (Nat.le_of_ble_eq_true rfl) dX8_advance_193 ⟨Nat.zero_le _, Nat.zero_le _⟩ (W' := [cob t 8 [.ref ak, .ref tl, .ref tf, .ref ta, .ref tk, .ref tg, .ref tp, .ref tm, .int (nI cnt), .int (nI stp), .int z], cin g tl 4 laws, cin g tf 6 fogs, cin g ta 6 arms, cin g tk 8 kinds, cin g tg 8 (upd faiths k (mmax32 0 (mmin32 99 ((faiths k) + (3 * 2))))), cin g tp 8 places, cin g tm 8 (upd moved k (mmin32 9999 ((moved k) + 1))), ckd g ak 6 (kdf k0 k1 k2 k3 k4 k5), cob k0 4 [], cob k1 2 [], cob k2 5 [], cob k3 6 [], cob k4 9 [], cob k5 1 []]) rfl (fun H locs hw => ?_)
            refine lv_iadd hx hb dX8_advance_196 ?_
            refine rmmin hx hb (hf.2.2.1.trans hl.1.symm) hf.2.2.2.1 (hts _ w_9) (hts _ w_10) (hts _ w_11) (hts _ w_12) (Nat.le_of_ble_eq_true rfl) (Nat.le_of_ble_eq_true rfl) (Nat.zero_le _) (Nat.zero_le _) dX8_advance_197 ?_
            refine rsj hf hk hw 6 rfl (j := k) (vp_in_nI (by omega) (by omega)) (nI_clamp (by omega)) dX8_advance_200 (W' := [cob t 8 [.ref ak, .ref tl, .ref tf, .ref ta, .ref tk, .ref tg, .ref tp, .ref tm, .int (nI cnt), .int (nI stp), .int z], cin g tl 4 laws, cin g tf 6 fogs, cin g ta 6 arms, cin g tk 8 kinds, cin g tg 8 (upd faiths k (mmax32 0 (mmin32 99 ((faiths k) + (3 * 2))))), cin g tp 8 (upd places k (mmin32 12 ((places k) + 1))), cin g tm 8 (upd moved k (mmin32 9999 ((moved k) + 1))), ckd g ak 6 (kdf k0 k1 k2 k3 k4 k5), cob k0 4 [], cob k1 2 [], cob k2 5 [], cob k3 6 [], cob k4 9 [], cob k5 1 []]) rfl (fun H locs hw => ?_)
            refine lv_iconst (v := 1) hx hb dX8_advance_201 (by decide) ?_
            have hfa : vF (kinds k) (fogs (st % 6)) (arms (st % 6)) (laws 0) (faiths k) (places k) = (mmax32 0 (mmin32 99 ((faiths k) + (3 * 2)))) := by unfold vF; rw [if_neg c_13, e_2]; rfl
            have hpa : ∀ x : Int32, paceF (kinds k) (nI st) x = 1 := by intro x; rw [e_2]; rfl
            exact re_i hf hr hlk hw (by simp only [n1D, vD, if_pos c_1, if_neg c_13, hfa, if_pos c_16, if_pos c_17, hpa]) (by simp only [aG, vP, vM, upd_id, if_pos c_1, if_neg c_13, hfa, if_pos c_16, if_pos c_17, hpa]) dX8_advance_202
          · refine lv_iconst (v := 2) hx hb dX8_advance_174 (by decide) ?_
            have hfa : vF (kinds k) (fogs (st % 6)) (arms (st % 6)) (laws 0) (faiths k) (places k) = (mmax32 0 (mmin32 99 ((faiths k) + (3 * 2)))) := by unfold vF; rw [if_neg c_13, e_2]; rfl
            exact re_i hf hr hlk hw (by simp only [n1D, vD, if_pos c_1, if_neg c_13, hfa, if_pos c_16, if_neg c_17]) (by simp only [aG, vP, vM, upd_id, if_pos c_1, if_neg c_13, hfa, if_pos c_16, if_neg c_17]) dX8_advance_175
        · refine lv_aload_n hx hb dX8_advance_139 rfl (lv_at hl 3 rfl) ?_
          refine rg hf hk hw hinX8 0 rfl rfl 6 (by decide) w_8 rfl dX8_advance_140 ?_
          refine lv_iload_n hx hb dX8_advance_143 rfl (lv_at hl 4 rfl) ?_
          refine lv_iconst (v := 0) hx hb dX8_advance_144 (by decide) ?_
          refine lv_aload_n hx hb dX8_advance_145 rfl (lv_at hl 3 rfl) ?_
          refine rg hf hk hw hinX8 0 rfl rfl 6 (by decide) w_8 rfl dX8_advance_146 ?_
          refine lv_iload_n hx hb dX8_advance_149 rfl (lv_at hl 4 rfl) ?_
          refine rij hf hk hw 6 rfl (j := k) (vp_in_nI (by omega) (by omega)) (nI_clamp (by omega)) dX8_advance_150 ?_
          refine lv_iconst (v := 1) hx hb dX8_advance_151 (by decide) ?_
          refine lv_isub hx hb dX8_advance_152 ?_
          refine rmmax hx hb (hf.2.2.1.trans hl.1.symm) hf.2.2.2.1 (hts _ w_13) (hts _ w_14) (hts _ w_11) (hts _ w_15) (Nat.le_of_ble_eq_true rfl) (Nat.le_of_ble_eq_true rfl) (Nat.zero_le _) (Nat.zero_le _) dX8_advance_153 ?_
          refine rsj hf hk hw 6 rfl (j := k) (vp_in_nI (by omega) (by omega)) (nI_clamp (by omega)) dX8_advance_156 (W' := [cob t 8 [.ref ak, .ref tl, .ref tf, .ref ta, .ref tk, .ref tg, .ref tp, .ref tm, .int (nI cnt), .int (nI stp), .int z], cin g tl 4 laws, cin g tf 6 fogs, cin g ta 6 arms, cin g tk 8 kinds, cin g tg 8 (upd faiths k (mmax32 0 (mmin32 99 ((faiths k) + (3 * 2))))), cin g tp 8 (upd places k (mmax32 0 ((places k) - 1))), cin g tm 8 (upd moved k (mmin32 9999 ((moved k) + 1))), ckd g ak 6 (kdf k0 k1 k2 k3 k4 k5), cob k0 4 [], cob k1 2 [], cob k2 5 [], cob k3 6 [], cob k4 9 [], cob k5 1 []]) rfl (fun H locs hw => ?_)
          refine lv_iconst (v := 3) hx hb dX8_advance_157 (by decide) ?_
          have hfa : vF (kinds k) (fogs (st % 6)) (arms (st % 6)) (laws 0) (faiths k) (places k) = (mmax32 0 (mmin32 99 ((faiths k) + (3 * 2)))) := by unfold vF; rw [if_neg c_13, e_2]; rfl
          exact re_i hf hr hlk hw (by simp only [n1D, vD, if_pos c_1, if_neg c_13, hfa, if_neg c_16]) (by simp only [aG, vP, vM, upd_id, if_pos c_1, if_neg c_13, hfa, if_neg c_16]) dX8_advance_158
    · refine rkj hf hk hw 8 rfl (j := 3) (r := some k3) (by rw [e_2]; exact vp_in_nI (n := 3) (by omega) (by omega)) (by rw [e_2]; rfl) rfl dX8_advance_20 ?_
      refine lv_astore_n (lv' := [(3, .ref k3), (0, .ref t), (1, .int (nI k)), (2, .int (nI st))]) hx hb dX8_advance_21 rfl hl (by decide) rfl (fun ls hl => ?_)
      refine lv_iload_n hx hb dX8_advance_22 rfl (lv_at hl 3 rfl) ?_
      refine mcN hf hk hst hw (c_X10_restOf l g st (by omega)) ⟨va_cnB 1 hts gX8_advance_X10_restOf_n57 rfl rfl rfl hk.2.1.1 (hts _ w_2) hdS_X10_restOf ⟨Nat.le_of_ble_eq_true rfl, Nat.le_of_ble_eq_true rfl⟩, hts _ w_3, trivial⟩ [] rfl rfl rfl hl.1 rfl (Nat.le_of_ble_eq_true rfl) dX8_advance_23 ⟨Nat.zero_le _, Nat.zero_le _⟩ (W' := [cob t 8 [.ref ak, .ref tl, .ref tf, .ref ta, .ref tk, .ref tg, .ref tp, .ref tm, .int (nI cnt), .int (nI stp), .int z], cin g tl 4 laws, cin g tf 6 fogs, cin g ta 6 arms, cin g tk 8 kinds, cin g tg 8 faiths, cin g tp 8 places, cin g tm 8 moved, ckd g ak 6 (kdf k0 k1 k2 k3 k4 k5), cob k0 4 [], cob k1 2 [], cob k2 5 [], cob k3 6 [], cob k4 9 [], cob k5 1 []]) rfl (fun H locs hw => ?_)
      refine lv_istore (lv' := [(4, .int (nI (st % 6))), (3, .ref k3), (0, .ref t), (1, .int (nI k)), (2, .int (nI st))]) hx hb dX8_advance_26 hl (by decide) rfl (fun ls hl => ?_)
      refine lv_aload_n hx hb dX8_advance_28 rfl (lv_at hl 2 rfl) ?_
      refine lv_iload_n hx hb dX8_advance_29 rfl (lv_at hl 3 rfl) ?_
      refine lv_iload_n hx hb dX8_advance_30 rfl (lv_at hl 4 rfl) ?_
      refine mcV hf hk hst hw (c_X8_sees l g t tl tf ta tk tg tp tm laws fogs arms kinds faiths places moved cnt stp z ak k0 k1 k2 k3 k4 k5 k st (by omega) (by omega) (by assumption)) (cwV 2 hts gX8_advance_X8_sees rfl rfl rfl hdV_X8_sees ⟨Nat.le_of_ble_eq_true rfl, Nat.le_of_ble_eq_true rfl⟩) [0, 1, 2, 3, 4, 5, 6, 7, 8, 9, 10, 11, 12, 13, 14] rfl rfl 0 rfl rfl rfl hl.1 rfl (Nat.le_of_ble_eq_true rfl) dX8_advance_31 ⟨Nat.zero_le _, Nat.zero_le _⟩ (W' := [cob t 8 [.ref ak, .ref tl, .ref tf, .ref ta, .ref tk, .ref tg, .ref tp, .ref tm, .int (nI cnt), .int (nI stp), .int z], cin g tl 4 laws, cin g tf 6 fogs, cin g ta 6 arms, cin g tk 8 kinds, cin g tg 8 faiths, cin g tp 8 places, cin g tm 8 moved, ckd g ak 6 (kdf k0 k1 k2 k3 k4 k5), cob k0 4 [], cob k1 2 [], cob k2 5 [], cob k3 6 [], cob k4 9 [], cob k5 1 []]) rfl (fun H locs hw => ?_)
      refine lv_istore (lv' := [(5, .int (seesF (kinds k) (fogs (st % 6)) (arms (st % 6)) (laws 0) (places k))), (4, .int (nI (st % 6))), (3, .ref k3), (0, .ref t), (1, .int (nI k)), (2, .int (nI st))]) hx hb dX8_advance_34 hl (by decide) rfl (fun ls hl => ?_)
      refine lv_iload hx hb dX8_advance_36 (lv_at hl 0 rfl) ?_
      refine lv_if_eq (tgt := 97) hx hb dX8_advance_38 (by decide) (fun c_18 => ?_) (fun c_18 => ?_)
      · refine lv_aload_n hx hb dX8_advance_97 rfl (lv_at hl 3 rfl) ?_
        refine rg hf hk hw hinX8 0 rfl rfl 5 (by decide) w_4 rfl dX8_advance_98 ?_
        refine lv_iload_n hx hb dX8_advance_101 rfl (lv_at hl 4 rfl) ?_
        refine lv_aload_n hx hb dX8_advance_102 rfl (lv_at hl 3 rfl) ?_
        refine rg hf hk hw hinX8 0 rfl rfl 5 (by decide) w_4 rfl dX8_advance_103 ?_
        refine lv_iload_n hx hb dX8_advance_106 rfl (lv_at hl 4 rfl) ?_
        refine rij hf hk hw 5 rfl (j := k) (vp_in_nI (by omega) (by omega)) (nI_clamp (by omega)) dX8_advance_107 ?_
        refine lv_aload_n hx hb dX8_advance_108 rfl (lv_at hl 2 rfl) ?_
        refine lv_aload_n hx hb dX8_advance_109 rfl (lv_at hl 3 rfl) ?_
        refine rg hf hk hw hinX8 0 rfl rfl 2 (by decide) w_5 rfl dX8_advance_110 ?_
        refine lv_iload hx hb dX8_advance_113 (lv_at hl 1 rfl) ?_
        refine rij hf hk hw 2 rfl (j := st % 6) (vp_in_nI (by omega) (by omega)) (nI_clamp (by omega)) dX8_advance_115 ?_
        refine mcU hf hk hst hw (c_X6_fears l g k3 6 RX6 TX6 0 (fogs (st % 6)) rfl) (va_cwO 1 hts gX8_advance_X6_fears_u87X6 rfl rfl rfl w_18 hdU_LightMan_Kind_fears ⟨Nat.le_of_ble_eq_true rfl, Nat.le_of_ble_eq_true rfl⟩) [12] rfl rfl 12 rfl rfl rfl hl.1 rfl (Nat.le_of_ble_eq_true rfl) dX8_advance_116 ⟨Nat.zero_le _, Nat.zero_le _⟩ (W' := [cob t 8 [.ref ak, .ref tl, .ref tf, .ref ta, .ref tk, .ref tg, .ref tp, .ref tm, .int (nI cnt), .int (nI stp), .int z], cin g tl 4 laws, cin g tf 6 fogs, cin g ta 6 arms, cin g tk 8 kinds, cin g tg 8 faiths, cin g tp 8 places, cin g tm 8 moved, ckd g ak 6 (kdf k0 k1 k2 k3 k4 k5), cob k0 4 [], cob k1 2 [], cob k2 5 [], cob k3 6 [], cob k4 9 [], cob k5 1 []]) rfl (fun H locs hw => ?_)
        refine lv_isub hx hb dX8_advance_119 ?_
        refine mcN hf hk hst hw (c_X10_heldFaith l g ((faiths k) - ((2 - 3) + (fogs (st % 6))))) ⟨va_cnB 1 hts gX8_advance_X10_heldFaith_n79 rfl rfl rfl hk.2.1.2 (hts _ w_2) hdS_X10_heldFaith ⟨Nat.le_of_ble_eq_true rfl, Nat.le_of_ble_eq_true rfl⟩, hts _ w_6, trivial⟩ [] rfl rfl rfl hl.1 rfl (Nat.le_of_ble_eq_true rfl) dX8_advance_120 ⟨Nat.zero_le _, Nat.zero_le _⟩ (W' := [cob t 8 [.ref ak, .ref tl, .ref tf, .ref ta, .ref tk, .ref tg, .ref tp, .ref tm, .int (nI cnt), .int (nI stp), .int z], cin g tl 4 laws, cin g tf 6 fogs, cin g ta 6 arms, cin g tk 8 kinds, cin g tg 8 faiths, cin g tp 8 places, cin g tm 8 moved, ckd g ak 6 (kdf k0 k1 k2 k3 k4 k5), cob k0 4 [], cob k1 2 [], cob k2 5 [], cob k3 6 [], cob k4 9 [], cob k5 1 []]) rfl (fun H locs hw => ?_)
        refine rsj hf hk hw 5 rfl (j := k) (vp_in_nI (by omega) (by omega)) (nI_clamp (by omega)) dX8_advance_123 (W' := [cob t 8 [.ref ak, .ref tl, .ref tf, .ref ta, .ref tk, .ref tg, .ref tp, .ref tm, .int (nI cnt), .int (nI stp), .int z], cin g tl 4 laws, cin g tf 6 fogs, cin g ta 6 arms, cin g tk 8 kinds, cin g tg 8 (upd faiths k (mmax32 0 (mmin32 99 ((faiths k) - ((2 - 3) + (fogs (st % 6))))))), cin g tp 8 places, cin g tm 8 moved, ckd g ak 6 (kdf k0 k1 k2 k3 k4 k5), cob k0 4 [], cob k1 2 [], cob k2 5 [], cob k3 6 [], cob k4 9 [], cob k5 1 []]) rfl (fun H locs hw => ?_)
        refine lv_aload_n hx hb dX8_advance_124 rfl (lv_at hl 3 rfl) ?_
        refine rg hf hk hw hinX8 0 rfl rfl 5 (by decide) w_4 rfl dX8_advance_125 ?_
        refine lv_iload_n hx hb dX8_advance_128 rfl (lv_at hl 4 rfl) ?_
        refine rij hf hk hw 5 rfl (j := k) (vp_in_nI (by omega) (by omega)) (nI_clamp (by omega)) dX8_advance_129 ?_
        refine lv_tope (y := mmax32 0 (mmin32 99 ((faiths k) - ((2 - 3) + (fogs (st % 6)))))) pk_us ?_
        refine lv_aload_n hx hb dX8_advance_130 rfl (lv_at hl 3 rfl) ?_
        refine rg hf hk hw hinX8 0 rfl rfl 1 (by decide) w_7 rfl dX8_advance_131 ?_
        refine lv_iconst (v := 1) hx hb dX8_advance_134 (by decide) ?_
        refine rij hf hk hw 1 rfl (j := 1) (vp_in_nI (n := 1) (by omega) (by omega)) (rfl) dX8_advance_135 ?_
        refine lv_icmp_ge (tgt := 159) hx hb dX8_advance_136 (by decide) (fun c_19 => ?_) (fun c_19 => ?_)
        · refine lv_aload_n hx hb dX8_advance_159 rfl (lv_at hl 3 rfl) ?_
          refine rg hf hk hw hinX8 0 rfl rfl 5 (by decide) w_4 rfl dX8_advance_160 ?_
          refine lv_iload_n hx hb dX8_advance_163 rfl (lv_at hl 4 rfl) ?_
          refine rij hf hk hw 5 rfl (j := k) (vp_in_nI (by omega) (by omega)) (nI_clamp (by omega)) dX8_advance_164 ?_
          refine lv_tope (y := mmax32 0 (mmin32 99 ((faiths k) - ((2 - 3) + (fogs (st % 6)))))) pk_us ?_
          refine lv_aload_n hx hb dX8_advance_165 rfl (lv_at hl 3 rfl) ?_
          refine rg hf hk hw hinX8 0 rfl rfl 1 (by decide) w_7 rfl dX8_advance_166 ?_
          refine lv_iconst (v := 2) hx hb dX8_advance_169 (by decide) ?_
          refine rij hf hk hw 1 rfl (j := 2) (vp_in_nI (n := 2) (by omega) (by omega)) (rfl) dX8_advance_170 ?_
          refine lv_icmp_le (tgt := 176) hx hb dX8_advance_171 (by decide) (fun c_20 => ?_) (fun c_20 => ?_)
          · refine lv_aload_n hx hb dX8_advance_176 rfl (lv_at hl 3 rfl) ?_
            refine rg hf hk hw hinX8 0 rfl rfl 6 (by decide) w_8 rfl dX8_advance_177 ?_
            refine lv_iload_n hx hb dX8_advance_180 rfl (lv_at hl 4 rfl) ?_
            refine lv_bipush (v := 12) hx hb dX8_advance_181 (by decide) ?_
            refine lv_aload_n hx hb dX8_advance_183 rfl (lv_at hl 3 rfl) ?_
            refine rg hf hk hw hinX8 0 rfl rfl 6 (by decide) w_8 rfl dX8_advance_184 ?_
            refine lv_iload_n hx hb dX8_advance_187 rfl (lv_at hl 4 rfl) ?_
            refine rij hf hk hw 6 rfl (j := k) (vp_in_nI (by omega) (by omega)) (nI_clamp (by omega)) dX8_advance_188 ?_
            refine lv_aload_n hx hb dX8_advance_189 rfl (lv_at hl 2 rfl) ?_
            refine lv_iload_n hx hb dX8_advance_190 rfl (lv_at hl 5 rfl) ?_
            refine lv_iload hx hb dX8_advance_191 (lv_at hl 0 rfl) ?_
            refine mcU hf hk hst hw (c_X6_pace l g k3 6 RX6 TX6 0 (nI st) (seesF (kinds k) (fogs (st % 6)) (arms (st % 6)) (laws 0) (places k)) rfl) (va_cwO 2 hts gX8_advance_X6_pace_u93X6 rfl rfl rfl w_19 hdU_LightMan_Kind_pace ⟨Nat.le_of_ble_eq_true rfl, Nat.le_of_ble_eq_true rfl⟩) [12] rfl rfl 12 rfl rfl rfl hl.1 rfl (Nat.le_of_ble_eq_true rfl) dX8_advance_193 ⟨Nat.zero_le _, Nat.zero_le _⟩ (W' := [cob t 8 [.ref ak, .ref tl, .ref tf, .ref ta, .ref tk, .ref tg, .ref tp, .ref tm, .int (nI cnt), .int (nI stp), .int z], cin g tl 4 laws, cin g tf 6 fogs, cin g ta 6 arms, cin g tk 8 kinds, cin g tg 8 (upd faiths k (mmax32 0 (mmin32 99 ((faiths k) - ((2 - 3) + (fogs (st % 6))))))), cin g tp 8 places, cin g tm 8 moved, ckd g ak 6 (kdf k0 k1 k2 k3 k4 k5), cob k0 4 [], cob k1 2 [], cob k2 5 [], cob k3 6 [], cob k4 9 [], cob k5 1 []]) rfl (fun H locs hw => ?_)
            refine lv_iadd hx hb dX8_advance_196 ?_
            refine rmmin hx hb (hf.2.2.1.trans hl.1.symm) hf.2.2.2.1 (hts _ w_9) (hts _ w_10) (hts _ w_11) (hts _ w_12) (Nat.le_of_ble_eq_true rfl) (Nat.le_of_ble_eq_true rfl) (Nat.zero_le _) (Nat.zero_le _) dX8_advance_197 ?_
            refine rsj hf hk hw 6 rfl (j := k) (vp_in_nI (by omega) (by omega)) (nI_clamp (by omega)) dX8_advance_200 (W' := [cob t 8 [.ref ak, .ref tl, .ref tf, .ref ta, .ref tk, .ref tg, .ref tp, .ref tm, .int (nI cnt), .int (nI stp), .int z], cin g tl 4 laws, cin g tf 6 fogs, cin g ta 6 arms, cin g tk 8 kinds, cin g tg 8 (upd faiths k (mmax32 0 (mmin32 99 ((faiths k) - ((2 - 3) + (fogs (st % 6))))))), cin g tp 8 (upd places k (mmin32 12 ((places k) + ((1 + 2) - 1)))), cin g tm 8 moved, ckd g ak 6 (kdf k0 k1 k2 k3 k4 k5), cob k0 4 [], cob k1 2 [], cob k2 5 [], cob k3 6 [], cob k4 9 [], cob k5 1 []]) rfl (fun H locs hw => ?_)
            refine lv_iconst (v := 1) hx hb dX8_advance_201 (by decide) ?_
            have hfa : vF (kinds k) (fogs (st % 6)) (arms (st % 6)) (laws 0) (faiths k) (places k) = (mmax32 0 (mmin32 99 ((faiths k) - ((2 - 3) + (fogs (st % 6)))))) := by unfold vF; rw [if_pos c_18, e_2]; rfl
            have hpa : ∀ x : Int32, paceF (kinds k) (nI st) x = ((1 + 2) - 1) := by intro x; rw [e_2]; rfl
            exact re_i hf hr hlk hw (by simp only [n1D, vD, if_pos c_1, if_pos c_18, hfa, if_pos c_19, if_pos c_20, hpa]) (by simp only [aG, vP, vM, upd_id, if_pos c_1, if_pos c_18, hfa, if_pos c_19, if_pos c_20, hpa]) dX8_advance_202
          · refine lv_iconst (v := 2) hx hb dX8_advance_174 (by decide) ?_
            have hfa : vF (kinds k) (fogs (st % 6)) (arms (st % 6)) (laws 0) (faiths k) (places k) = (mmax32 0 (mmin32 99 ((faiths k) - ((2 - 3) + (fogs (st % 6)))))) := by unfold vF; rw [if_pos c_18, e_2]; rfl
            exact re_i hf hr hlk hw (by simp only [n1D, vD, if_pos c_1, if_pos c_18, hfa, if_pos c_19, if_neg c_20]) (by simp only [aG, vP, vM, upd_id, if_pos c_1, if_pos c_18, hfa, if_pos c_19, if_neg c_20]) dX8_advance_175
        · refine lv_aload_n hx hb dX8_advance_139 rfl (lv_at hl 3 rfl) ?_
          refine rg hf hk hw hinX8 0 rfl rfl 6 (by decide) w_8 rfl dX8_advance_140 ?_
          refine lv_iload_n hx hb dX8_advance_143 rfl (lv_at hl 4 rfl) ?_
          refine lv_iconst (v := 0) hx hb dX8_advance_144 (by decide) ?_
          refine lv_aload_n hx hb dX8_advance_145 rfl (lv_at hl 3 rfl) ?_
          refine rg hf hk hw hinX8 0 rfl rfl 6 (by decide) w_8 rfl dX8_advance_146 ?_
          refine lv_iload_n hx hb dX8_advance_149 rfl (lv_at hl 4 rfl) ?_
          refine rij hf hk hw 6 rfl (j := k) (vp_in_nI (by omega) (by omega)) (nI_clamp (by omega)) dX8_advance_150 ?_
          refine lv_iconst (v := 1) hx hb dX8_advance_151 (by decide) ?_
          refine lv_isub hx hb dX8_advance_152 ?_
          refine rmmax hx hb (hf.2.2.1.trans hl.1.symm) hf.2.2.2.1 (hts _ w_13) (hts _ w_14) (hts _ w_11) (hts _ w_15) (Nat.le_of_ble_eq_true rfl) (Nat.le_of_ble_eq_true rfl) (Nat.zero_le _) (Nat.zero_le _) dX8_advance_153 ?_
          refine rsj hf hk hw 6 rfl (j := k) (vp_in_nI (by omega) (by omega)) (nI_clamp (by omega)) dX8_advance_156 (W' := [cob t 8 [.ref ak, .ref tl, .ref tf, .ref ta, .ref tk, .ref tg, .ref tp, .ref tm, .int (nI cnt), .int (nI stp), .int z], cin g tl 4 laws, cin g tf 6 fogs, cin g ta 6 arms, cin g tk 8 kinds, cin g tg 8 (upd faiths k (mmax32 0 (mmin32 99 ((faiths k) - ((2 - 3) + (fogs (st % 6))))))), cin g tp 8 (upd places k (mmax32 0 ((places k) - 1))), cin g tm 8 moved, ckd g ak 6 (kdf k0 k1 k2 k3 k4 k5), cob k0 4 [], cob k1 2 [], cob k2 5 [], cob k3 6 [], cob k4 9 [], cob k5 1 []]) rfl (fun H locs hw => ?_)
          refine lv_iconst (v := 3) hx hb dX8_advance_157 (by decide) ?_
          have hfa : vF (kinds k) (fogs (st % 6)) (arms (st % 6)) (laws 0) (faiths k) (places k) = (mmax32 0 (mmin32 99 ((faiths k) - ((2 - 3) + (fogs (st % 6)))))) := by unfold vF; rw [if_pos c_18, e_2]; rfl
          exact re_i hf hr hlk hw (by simp only [n1D, vD, if_pos c_1, if_pos c_18, hfa, if_neg c_19]) (by simp only [aG, vP, vM, upd_id, if_pos c_1, if_pos c_18, hfa, if_neg c_19]) dX8_advance_158
      · refine lv_aload_n hx hb dX8_advance_41 rfl (lv_at hl 3 rfl) ?_
        refine rg hf hk hw hinX8 0 rfl rfl 5 (by decide) w_4 rfl dX8_advance_42 ?_
        refine lv_iload_n hx hb dX8_advance_45 rfl (lv_at hl 4 rfl) ?_
        refine lv_aload_n hx hb dX8_advance_46 rfl (lv_at hl 3 rfl) ?_
        refine rg hf hk hw hinX8 0 rfl rfl 5 (by decide) w_4 rfl dX8_advance_47 ?_
        refine lv_iload_n hx hb dX8_advance_50 rfl (lv_at hl 4 rfl) ?_
        refine rij hf hk hw 5 rfl (j := k) (vp_in_nI (by omega) (by omega)) (nI_clamp (by omega)) dX8_advance_51 ?_
        refine lv_aload_n hx hb dX8_advance_52 rfl (lv_at hl 2 rfl) ?_
        refine lv_aload_n hx hb dX8_advance_53 rfl (lv_at hl 3 rfl) ?_
        refine rg hf hk hw hinX8 0 rfl rfl 3 (by decide) w_16 rfl dX8_advance_54 ?_
        refine lv_iload hx hb dX8_advance_57 (lv_at hl 1 rfl) ?_
        refine rij hf hk hw 3 rfl (j := st % 6) (vp_in_nI (by omega) (by omega)) (nI_clamp (by omega)) dX8_advance_59 ?_
        refine lv_aload_n hx hb dX8_advance_60 rfl (lv_at hl 3 rfl) ?_
        refine rg hf hk hw hinX8 0 rfl rfl 1 (by decide) w_7 rfl dX8_advance_61 ?_
        refine lv_iconst (v := 0) hx hb dX8_advance_64 (by decide) ?_
        refine rij hf hk hw 1 rfl (j := 0) (vp_in_nI (n := 0) (by omega) (by omega)) (rfl) dX8_advance_65 ?_
        refine mcU hf hk hst hw (c_X6_keen l g k3 6 RX6 TX6 0 (arms (st % 6)) (laws 0) rfl) (va_cwO 2 hts gX8_advance_X6_keen_u75X6 rfl rfl rfl w_20 hdU_LightMan_Kind_keen ⟨Nat.le_of_ble_eq_true rfl, Nat.le_of_ble_eq_true rfl⟩) [12] rfl rfl 12 rfl rfl rfl hl.1 rfl (Nat.le_of_ble_eq_true rfl) dX8_advance_66 ⟨Nat.zero_le _, Nat.zero_le _⟩ (W' := [cob t 8 [.ref ak, .ref tl, .ref tf, .ref ta, .ref tk, .ref tg, .ref tp, .ref tm, .int (nI cnt), .int (nI stp), .int z], cin g tl 4 laws, cin g tf 6 fogs, cin g ta 6 arms, cin g tk 8 kinds, cin g tg 8 faiths, cin g tp 8 places, cin g tm 8 moved, ckd g ak 6 (kdf k0 k1 k2 k3 k4 k5), cob k0 4 [], cob k1 2 [], cob k2 5 [], cob k3 6 [], cob k4 9 [], cob k5 1 []]) rfl (fun H locs hw => ?_)
        refine lv_iadd hx hb dX8_advance_69 ?_
        refine mcN hf hk hst hw (c_X10_heldFaith l g ((faiths k) + ((3 + (arms (st % 6))) - 1))) ⟨va_cnB 1 hts gX8_advance_X10_heldFaith_n79 rfl rfl rfl hk.2.1.2 (hts _ w_2) hdS_X10_heldFaith ⟨Nat.le_of_ble_eq_true rfl, Nat.le_of_ble_eq_true rfl⟩, hts _ w_6, trivial⟩ [] rfl rfl rfl hl.1 rfl (Nat.le_of_ble_eq_true rfl) dX8_advance_70 ⟨Nat.zero_le _, Nat.zero_le _⟩ (W' := [cob t 8 [.ref ak, .ref tl, .ref tf, .ref ta, .ref tk, .ref tg, .ref tp, .ref tm, .int (nI cnt), .int (nI stp), .int z], cin g tl 4 laws, cin g tf 6 fogs, cin g ta 6 arms, cin g tk 8 kinds, cin g tg 8 faiths, cin g tp 8 places, cin g tm 8 moved, ckd g ak 6 (kdf k0 k1 k2 k3 k4 k5), cob k0 4 [], cob k1 2 [], cob k2 5 [], cob k3 6 [], cob k4 9 [], cob k5 1 []]) rfl (fun H locs hw => ?_)
        refine rsj hf hk hw 5 rfl (j := k) (vp_in_nI (by omega) (by omega)) (nI_clamp (by omega)) dX8_advance_73 (W' := [cob t 8 [.ref ak, .ref tl, .ref tf, .ref ta, .ref tk, .ref tg, .ref tp, .ref tm, .int (nI cnt), .int (nI stp), .int z], cin g tl 4 laws, cin g tf 6 fogs, cin g ta 6 arms, cin g tk 8 kinds, cin g tg 8 (upd faiths k (mmax32 0 (mmin32 99 ((faiths k) + ((3 + (arms (st % 6))) - 1))))), cin g tp 8 places, cin g tm 8 moved, ckd g ak 6 (kdf k0 k1 k2 k3 k4 k5), cob k0 4 [], cob k1 2 [], cob k2 5 [], cob k3 6 [], cob k4 9 [], cob k5 1 []]) rfl (fun H locs hw => ?_)
        refine lv_aload_n hx hb dX8_advance_74 rfl (lv_at hl 3 rfl) ?_
        refine rg hf hk hw hinX8 0 rfl rfl 7 (by decide) w_17 rfl dX8_advance_75 ?_
        refine lv_iload_n hx hb dX8_advance_78 rfl (lv_at hl 4 rfl) ?_
        refine lv_sipush (v := 9999) hx hb dX8_advance_79 (by decide) ?_
        refine lv_aload_n hx hb dX8_advance_82 rfl (lv_at hl 3 rfl) ?_
        refine rg hf hk hw hinX8 0 rfl rfl 7 (by decide) w_17 rfl dX8_advance_83 ?_
        refine lv_iload_n hx hb dX8_advance_86 rfl (lv_at hl 4 rfl) ?_
        refine rij hf hk hw 7 rfl (j := k) (vp_in_nI (by omega) (by omega)) (nI_clamp (by omega)) dX8_advance_87 ?_
        refine lv_iconst (v := 1) hx hb dX8_advance_88 (by decide) ?_
        refine lv_iadd hx hb dX8_advance_89 ?_
        refine rmmin hx hb (hf.2.2.1.trans hl.1.symm) hf.2.2.2.1 (hts _ w_9) (hts _ w_10) (hts _ w_11) (hts _ w_12) (Nat.le_of_ble_eq_true rfl) (Nat.le_of_ble_eq_true rfl) (Nat.zero_le _) (Nat.zero_le _) dX8_advance_90 ?_
        refine rsj hf hk hw 7 rfl (j := k) (vp_in_nI (by omega) (by omega)) (nI_clamp (by omega)) dX8_advance_93 (W' := [cob t 8 [.ref ak, .ref tl, .ref tf, .ref ta, .ref tk, .ref tg, .ref tp, .ref tm, .int (nI cnt), .int (nI stp), .int z], cin g tl 4 laws, cin g tf 6 fogs, cin g ta 6 arms, cin g tk 8 kinds, cin g tg 8 (upd faiths k (mmax32 0 (mmin32 99 ((faiths k) + ((3 + (arms (st % 6))) - 1))))), cin g tp 8 places, cin g tm 8 (upd moved k (mmin32 9999 ((moved k) + 1))), ckd g ak 6 (kdf k0 k1 k2 k3 k4 k5), cob k0 4 [], cob k1 2 [], cob k2 5 [], cob k3 6 [], cob k4 9 [], cob k5 1 []]) rfl (fun H locs hw => ?_)
        refine lv_goto (tgt := 124) hx hb dX8_advance_94 (by decide) ?_
        refine lv_aload_n hx hb dX8_advance_124 rfl (lv_at hl 3 rfl) ?_
        refine rg hf hk hw hinX8 0 rfl rfl 5 (by decide) w_4 rfl dX8_advance_125 ?_
        refine lv_iload_n hx hb dX8_advance_128 rfl (lv_at hl 4 rfl) ?_
        refine rij hf hk hw 5 rfl (j := k) (vp_in_nI (by omega) (by omega)) (nI_clamp (by omega)) dX8_advance_129 ?_
        refine lv_tope (y := mmax32 0 (mmin32 99 ((faiths k) + ((3 + (arms (st % 6))) - 1)))) pk_us ?_
        refine lv_aload_n hx hb dX8_advance_130 rfl (lv_at hl 3 rfl) ?_
        refine rg hf hk hw hinX8 0 rfl rfl 1 (by decide) w_7 rfl dX8_advance_131 ?_
        refine lv_iconst (v := 1) hx hb dX8_advance_134 (by decide) ?_
        refine rij hf hk hw 1 rfl (j := 1) (vp_in_nI (n := 1) (by omega) (by omega)) (rfl) dX8_advance_135 ?_
        refine lv_icmp_ge (tgt := 159) hx hb dX8_advance_136 (by decide) (fun c_21 => ?_) (fun c_21 => ?_)
        · refine lv_aload_n hx hb dX8_advance_159 rfl (lv_at hl 3 rfl) ?_
          refine rg hf hk hw hinX8 0 rfl rfl 5 (by decide) w_4 rfl dX8_advance_160 ?_
          refine lv_iload_n hx hb dX8_advance_163 rfl (lv_at hl 4 rfl) ?_
          refine rij hf hk hw 5 rfl (j := k) (vp_in_nI (by omega) (by omega)) (nI_clamp (by omega)) dX8_advance_164 ?_
          refine lv_tope (y := mmax32 0 (mmin32 99 ((faiths k) + ((3 + (arms (st % 6))) - 1)))) pk_us ?_
          refine lv_aload_n hx hb dX8_advance_165 rfl (lv_at hl 3 rfl) ?_
          refine rg hf hk hw hinX8 0 rfl rfl 1 (by decide) w_7 rfl dX8_advance_166 ?_
          refine lv_iconst (v := 2) hx hb dX8_advance_169 (by decide) ?_
          refine rij hf hk hw 1 rfl (j := 2) (vp_in_nI (n := 2) (by omega) (by omega)) (rfl) dX8_advance_170 ?_
          refine lv_icmp_le (tgt := 176) hx hb dX8_advance_171 (by decide) (fun c_22 => ?_) (fun c_22 => ?_)
          · refine lv_aload_n hx hb dX8_advance_176 rfl (lv_at hl 3 rfl) ?_
            refine rg hf hk hw hinX8 0 rfl rfl 6 (by decide) w_8 rfl dX8_advance_177 ?_
            refine lv_iload_n hx hb dX8_advance_180 rfl (lv_at hl 4 rfl) ?_
            refine lv_bipush (v := 12) hx hb dX8_advance_181 (by decide) ?_
            refine lv_aload_n hx hb dX8_advance_183 rfl (lv_at hl 3 rfl) ?_
            refine rg hf hk hw hinX8 0 rfl rfl 6 (by decide) w_8 rfl dX8_advance_184 ?_
            refine lv_iload_n hx hb dX8_advance_187 rfl (lv_at hl 4 rfl) ?_
            refine rij hf hk hw 6 rfl (j := k) (vp_in_nI (by omega) (by omega)) (nI_clamp (by omega)) dX8_advance_188 ?_
            refine lv_aload_n hx hb dX8_advance_189 rfl (lv_at hl 2 rfl) ?_
            refine lv_iload_n hx hb dX8_advance_190 rfl (lv_at hl 5 rfl) ?_
            refine lv_iload hx hb dX8_advance_191 (lv_at hl 0 rfl) ?_
            refine mcU hf hk hst hw (c_X6_pace l g k3 6 RX6 TX6 0 (nI st) (seesF (kinds k) (fogs (st % 6)) (arms (st % 6)) (laws 0) (places k)) rfl) (va_cwO 2 hts gX8_advance_X6_pace_u93X6 rfl rfl rfl w_19 hdU_LightMan_Kind_pace ⟨Nat.le_of_ble_eq_true rfl, Nat.le_of_ble_eq_true rfl⟩) [12] rfl rfl 12 rfl rfl rfl hl.1 rfl (Nat.le_of_ble_eq_true rfl) dX8_advance_193 ⟨Nat.zero_le _, Nat.zero_le _⟩ (W' := [cob t 8 [.ref ak, .ref tl, .ref tf, .ref ta, .ref tk, .ref tg, .ref tp, .ref tm, .int (nI cnt), .int (nI stp), .int z], cin g tl 4 laws, cin g tf 6 fogs, cin g ta 6 arms, cin g tk 8 kinds, cin g tg 8 (upd faiths k (mmax32 0 (mmin32 99 ((faiths k) + ((3 + (arms (st % 6))) - 1))))), cin g tp 8 places, cin g tm 8 (upd moved k (mmin32 9999 ((moved k) + 1))), ckd g ak 6 (kdf k0 k1 k2 k3 k4 k5), cob k0 4 [], cob k1 2 [], cob k2 5 [], cob k3 6 [], cob k4 9 [], cob k5 1 []]) rfl (fun H locs hw => ?_)
            refine lv_iadd hx hb dX8_advance_196 ?_
            refine rmmin hx hb (hf.2.2.1.trans hl.1.symm) hf.2.2.2.1 (hts _ w_9) (hts _ w_10) (hts _ w_11) (hts _ w_12) (Nat.le_of_ble_eq_true rfl) (Nat.le_of_ble_eq_true rfl) (Nat.zero_le _) (Nat.zero_le _) dX8_advance_197 ?_
            refine rsj hf hk hw 6 rfl (j := k) (vp_in_nI (by omega) (by omega)) (nI_clamp (by omega)) dX8_advance_200 (W' := [cob t 8 [.ref ak, .ref tl, .ref tf, .ref ta, .ref tk, .ref tg, .ref tp, .ref tm, .int (nI cnt), .int (nI stp), .int z], cin g tl 4 laws, cin g tf 6 fogs, cin g ta 6 arms, cin g tk 8 kinds, cin g tg 8 (upd faiths k (mmax32 0 (mmin32 99 ((faiths k) + ((3 + (arms (st % 6))) - 1))))), cin g tp 8 (upd places k (mmin32 12 ((places k) + ((1 + 2) - 1)))), cin g tm 8 (upd moved k (mmin32 9999 ((moved k) + 1))), ckd g ak 6 (kdf k0 k1 k2 k3 k4 k5), cob k0 4 [], cob k1 2 [], cob k2 5 [], cob k3 6 [], cob k4 9 [], cob k5 1 []]) rfl (fun H locs hw => ?_)
            refine lv_iconst (v := 1) hx hb dX8_advance_201 (by decide) ?_
            have hfa : vF (kinds k) (fogs (st % 6)) (arms (st % 6)) (laws 0) (faiths k) (places k) = (mmax32 0 (mmin32 99 ((faiths k) + ((3 + (arms (st % 6))) - 1)))) := by unfold vF; rw [if_neg c_18, e_2]; rfl
            have hpa : ∀ x : Int32, paceF (kinds k) (nI st) x = ((1 + 2) - 1) := by intro x; rw [e_2]; rfl
            exact re_i hf hr hlk hw (by simp only [n1D, vD, if_pos c_1, if_neg c_18, hfa, if_pos c_21, if_pos c_22, hpa]) (by simp only [aG, vP, vM, upd_id, if_pos c_1, if_neg c_18, hfa, if_pos c_21, if_pos c_22, hpa]) dX8_advance_202
          · refine lv_iconst (v := 2) hx hb dX8_advance_174 (by decide) ?_
            have hfa : vF (kinds k) (fogs (st % 6)) (arms (st % 6)) (laws 0) (faiths k) (places k) = (mmax32 0 (mmin32 99 ((faiths k) + ((3 + (arms (st % 6))) - 1)))) := by unfold vF; rw [if_neg c_18, e_2]; rfl
            exact re_i hf hr hlk hw (by simp only [n1D, vD, if_pos c_1, if_neg c_18, hfa, if_pos c_21, if_neg c_22]) (by simp only [aG, vP, vM, upd_id, if_pos c_1, if_neg c_18, hfa, if_pos c_21, if_neg c_22]) dX8_advance_175
        · refine lv_aload_n hx hb dX8_advance_139 rfl (lv_at hl 3 rfl) ?_
          refine rg hf hk hw hinX8 0 rfl rfl 6 (by decide) w_8 rfl dX8_advance_140 ?_
          refine lv_iload_n hx hb dX8_advance_143 rfl (lv_at hl 4 rfl) ?_
          refine lv_iconst (v := 0) hx hb dX8_advance_144 (by decide) ?_
          refine lv_aload_n hx hb dX8_advance_145 rfl (lv_at hl 3 rfl) ?_
          refine rg hf hk hw hinX8 0 rfl rfl 6 (by decide) w_8 rfl dX8_advance_146 ?_
          refine lv_iload_n hx hb dX8_advance_149 rfl (lv_at hl 4 rfl) ?_
          refine rij hf hk hw 6 rfl (j := k) (vp_in_nI (by omega) (by omega)) (nI_clamp (by omega)) dX8_advance_150 ?_
          refine lv_iconst (v := 1) hx hb dX8_advance_151 (by decide) ?_
          refine lv_isub hx hb dX8_advance_152 ?_
          refine rmmax hx hb (hf.2.2.1.trans hl.1.symm) hf.2.2.2.1 (hts _ w_13) (hts _ w_14) (hts _ w_11) (hts _ w_15) (Nat.le_of_ble_eq_true rfl) (Nat.le_of_ble_eq_true rfl) (Nat.zero_le _) (Nat.zero_le _) dX8_advance_153 ?_
          refine rsj hf hk hw 6 rfl (j := k) (vp_in_nI (by omega) (by omega)) (nI_clamp (by omega)) dX8_advance_156 (W' := [cob t 8 [.ref ak, .ref tl, .ref tf, .ref ta, .ref tk, .ref tg, .ref tp, .ref tm, .int (nI cnt), .int (nI stp), .int z], cin g tl 4 laws, cin g tf 6 fogs, cin g ta 6 arms, cin g tk 8 kinds, cin g tg 8 (upd faiths k (mmax32 0 (mmin32 99 ((faiths k) + ((3 + (arms (st % 6))) - 1))))), cin g tp 8 (upd places k (mmax32 0 ((places k) - 1))), cin g tm 8 (upd moved k (mmin32 9999 ((moved k) + 1))), ckd g ak 6 (kdf k0 k1 k2 k3 k4 k5), cob k0 4 [], cob k1 2 [], cob k2 5 [], cob k3 6 [], cob k4 9 [], cob k5 1 []]) rfl (fun H locs hw => ?_)
          refine lv_iconst (v := 3) hx hb dX8_advance_157 (by decide) ?_
          have hfa : vF (kinds k) (fogs (st % 6)) (arms (st % 6)) (laws 0) (faiths k) (places k) = (mmax32 0 (mmin32 99 ((faiths k) + ((3 + (arms (st % 6))) - 1)))) := by unfold vF; rw [if_neg c_18, e_2]; rfl
          exact re_i hf hr hlk hw (by simp only [n1D, vD, if_pos c_1, if_neg c_18, hfa, if_neg c_21]) (by simp only [aG, vP, vM, upd_id, if_pos c_1, if_neg c_18, hfa, if_neg c_21]) dX8_advance_158
    · refine rkj hf hk hw 8 rfl (j := 4) (r := some k4) (by rw [e_2]; exact vp_in_nI (n := 4) (by omega) (by omega)) (by rw [e_2]; rfl) rfl dX8_advance_20 ?_
      refine lv_astore_n (lv' := [(3, .ref k4), (0, .ref t), (1, .int (nI k)), (2, .int (nI st))]) hx hb dX8_advance_21 rfl hl (by decide) rfl (fun ls hl => ?_)
      refine lv_iload_n hx hb dX8_advance_22 rfl (lv_at hl 3 rfl) ?_
      refine mcN hf hk hst hw (c_X10_restOf l g st (by omega)) ⟨va_cnB 1 hts gX8_advance_X10_restOf_n57 rfl rfl rfl hk.2.1.1 (hts _ w_2) hdS_X10_restOf ⟨Nat.le_of_ble_eq_true rfl, Nat.le_of_ble_eq_true rfl⟩, hts _ w_3, trivial⟩ [] rfl rfl rfl hl.1 rfl (Nat.le_of_ble_eq_true rfl) dX8_advance_23 ⟨Nat.zero_le _, Nat.zero_le _⟩ (W' := [cob t 8 [.ref ak, .ref tl, .ref tf, .ref ta, .ref tk, .ref tg, .ref tp, .ref tm, .int (nI cnt), .int (nI stp), .int z], cin g tl 4 laws, cin g tf 6 fogs, cin g ta 6 arms, cin g tk 8 kinds, cin g tg 8 faiths, cin g tp 8 places, cin g tm 8 moved, ckd g ak 6 (kdf k0 k1 k2 k3 k4 k5), cob k0 4 [], cob k1 2 [], cob k2 5 [], cob k3 6 [], cob k4 9 [], cob k5 1 []]) rfl (fun H locs hw => ?_)
      refine lv_istore (lv' := [(4, .int (nI (st % 6))), (3, .ref k4), (0, .ref t), (1, .int (nI k)), (2, .int (nI st))]) hx hb dX8_advance_26 hl (by decide) rfl (fun ls hl => ?_)
      refine lv_aload_n hx hb dX8_advance_28 rfl (lv_at hl 2 rfl) ?_
      refine lv_iload_n hx hb dX8_advance_29 rfl (lv_at hl 3 rfl) ?_
      refine lv_iload_n hx hb dX8_advance_30 rfl (lv_at hl 4 rfl) ?_
      refine mcV hf hk hst hw (c_X8_sees l g t tl tf ta tk tg tp tm laws fogs arms kinds faiths places moved cnt stp z ak k0 k1 k2 k3 k4 k5 k st (by omega) (by omega) (by assumption)) (cwV 2 hts gX8_advance_X8_sees rfl rfl rfl hdV_X8_sees ⟨Nat.le_of_ble_eq_true rfl, Nat.le_of_ble_eq_true rfl⟩) [0, 1, 2, 3, 4, 5, 6, 7, 8, 9, 10, 11, 12, 13, 14] rfl rfl 0 rfl rfl rfl hl.1 rfl (Nat.le_of_ble_eq_true rfl) dX8_advance_31 ⟨Nat.zero_le _, Nat.zero_le _⟩ (W' := [cob t 8 [.ref ak, .ref tl, .ref tf, .ref ta, .ref tk, .ref tg, .ref tp, .ref tm, .int (nI cnt), .int (nI stp), .int z], cin g tl 4 laws, cin g tf 6 fogs, cin g ta 6 arms, cin g tk 8 kinds, cin g tg 8 faiths, cin g tp 8 places, cin g tm 8 moved, ckd g ak 6 (kdf k0 k1 k2 k3 k4 k5), cob k0 4 [], cob k1 2 [], cob k2 5 [], cob k3 6 [], cob k4 9 [], cob k5 1 []]) rfl (fun H locs hw => ?_)
      refine lv_istore (lv' := [(5, .int (seesF (kinds k) (fogs (st % 6)) (arms (st % 6)) (laws 0) (places k))), (4, .int (nI (st % 6))), (3, .ref k4), (0, .ref t), (1, .int (nI k)), (2, .int (nI st))]) hx hb dX8_advance_34 hl (by decide) rfl (fun ls hl => ?_)
      refine lv_iload hx hb dX8_advance_36 (lv_at hl 0 rfl) ?_
      refine lv_if_eq (tgt := 97) hx hb dX8_advance_38 (by decide) (fun c_23 => ?_) (fun c_23 => ?_)
      · refine lv_aload_n hx hb dX8_advance_97 rfl (lv_at hl 3 rfl) ?_
        refine rg hf hk hw hinX8 0 rfl rfl 5 (by decide) w_4 rfl dX8_advance_98 ?_
        refine lv_iload_n hx hb dX8_advance_101 rfl (lv_at hl 4 rfl) ?_
        refine lv_aload_n hx hb dX8_advance_102 rfl (lv_at hl 3 rfl) ?_
        refine rg hf hk hw hinX8 0 rfl rfl 5 (by decide) w_4 rfl dX8_advance_103 ?_
        refine lv_iload_n hx hb dX8_advance_106 rfl (lv_at hl 4 rfl) ?_
        refine rij hf hk hw 5 rfl (j := k) (vp_in_nI (by omega) (by omega)) (nI_clamp (by omega)) dX8_advance_107 ?_
        refine lv_aload_n hx hb dX8_advance_108 rfl (lv_at hl 2 rfl) ?_
        refine lv_aload_n hx hb dX8_advance_109 rfl (lv_at hl 3 rfl) ?_
        refine rg hf hk hw hinX8 0 rfl rfl 2 (by decide) w_5 rfl dX8_advance_110 ?_
        refine lv_iload hx hb dX8_advance_113 (lv_at hl 1 rfl) ?_
        refine rij hf hk hw 2 rfl (j := st % 6) (vp_in_nI (by omega) (by omega)) (nI_clamp (by omega)) dX8_advance_115 ?_
        refine mcU hf hk hst hw (c_X9_fears l g k4 9 RX9 TX9 0 (fogs (st % 6)) rfl) (va_cwO 1 hts gX8_advance_X9_fears_u87X9 rfl rfl rfl w_18 hdU_LightMan_Kind_fears ⟨Nat.le_of_ble_eq_true rfl, Nat.le_of_ble_eq_true rfl⟩) [13] rfl rfl 13 rfl rfl rfl hl.1 rfl (Nat.le_of_ble_eq_true rfl) dX8_advance_116 ⟨Nat.zero_le _, Nat.zero_le _⟩ (W' := [cob t 8 [.ref ak, .ref tl, .ref tf, .ref ta, .ref tk, .ref tg, .ref tp, .ref tm, .int (nI cnt), .int (nI stp), .int z], cin g tl 4 laws, cin g tf 6 fogs, cin g ta 6 arms, cin g tk 8 kinds, cin g tg 8 faiths, cin g tp 8 places, cin g tm 8 moved, ckd g ak 6 (kdf k0 k1 k2 k3 k4 k5), cob k0 4 [], cob k1 2 [], cob k2 5 [], cob k3 6 [], cob k4 9 [], cob k5 1 []]) rfl (fun H locs hw => ?_)
        refine lv_isub hx hb dX8_advance_119 ?_
        refine mcN hf hk hst hw (c_X10_heldFaith l g ((faiths k) - ((2 + 1) * 2))) ⟨va_cnB 1 hts gX8_advance_X10_heldFaith_n79 rfl rfl rfl hk.2.1.2 (hts _ w_2) hdS_X10_heldFaith ⟨Nat.le_of_ble_eq_true rfl, Nat.le_of_ble_eq_true rfl⟩, hts _ w_6, trivial⟩ [] rfl rfl rfl hl.1 rfl (Nat.le_of_ble_eq_true rfl) dX8_advance_120 ⟨Nat.zero_le _, Nat.zero_le _⟩ (W' := [cob t 8 [.ref ak, .ref tl, .ref tf, .ref ta, .ref tk, .ref tg, .ref tp, .ref tm, .int (nI cnt), .int (nI stp), .int z], cin g tl 4 laws, cin g tf 6 fogs, cin g ta 6 arms, cin g tk 8 kinds, cin g tg 8 faiths, cin g tp 8 places, cin g tm 8 moved, ckd g ak 6 (kdf k0 k1 k2 k3 k4 k5), cob k0 4 [], cob k1 2 [], cob k2 5 [], cob k3 6 [], cob k4 9 [], cob k5 1 []]) rfl (fun H locs hw => ?_)
        refine rsj hf hk hw 5 rfl (j := k) (vp_in_nI (by omega) (by omega)) (nI_clamp (by omega)) dX8_advance_123 (W' := [cob t 8 [.ref ak, .ref tl, .ref tf, .ref ta, .ref tk, .ref tg, .ref tp, .ref tm, .int (nI cnt), .int (nI stp), .int z], cin g tl 4 laws, cin g tf 6 fogs, cin g ta 6 arms, cin g tk 8 kinds, cin g tg 8 (upd faiths k (mmax32 0 (mmin32 99 ((faiths k) - ((2 + 1) * 2))))), cin g tp 8 places, cin g tm 8 moved, ckd g ak 6 (kdf k0 k1 k2 k3 k4 k5), cob k0 4 [], cob k1 2 [], cob k2 5 [], cob k3 6 [], cob k4 9 [], cob k5 1 []]) rfl (fun H locs hw => ?_)
        refine lv_aload_n hx hb dX8_advance_124 rfl (lv_at hl 3 rfl) ?_
        refine rg hf hk hw hinX8 0 rfl rfl 5 (by decide) w_4 rfl dX8_advance_125 ?_
        refine lv_iload_n hx hb dX8_advance_128 rfl (lv_at hl 4 rfl) ?_
        refine rij hf hk hw 5 rfl (j := k) (vp_in_nI (by omega) (by omega)) (nI_clamp (by omega)) dX8_advance_129 ?_
        refine lv_tope (y := mmax32 0 (mmin32 99 ((faiths k) - ((2 + 1) * 2)))) pk_us ?_
        refine lv_aload_n hx hb dX8_advance_130 rfl (lv_at hl 3 rfl) ?_
        refine rg hf hk hw hinX8 0 rfl rfl 1 (by decide) w_7 rfl dX8_advance_131 ?_
        refine lv_iconst (v := 1) hx hb dX8_advance_134 (by decide) ?_
        refine rij hf hk hw 1 rfl (j := 1) (vp_in_nI (n := 1) (by omega) (by omega)) (rfl) dX8_advance_135 ?_
        refine lv_icmp_ge (tgt := 159) hx hb dX8_advance_136 (by decide) (fun c_24 => ?_) (fun c_24 => ?_)
        · refine lv_aload_n hx hb dX8_advance_159 rfl (lv_at hl 3 rfl) ?_
          refine rg hf hk hw hinX8 0 rfl rfl 5 (by decide) w_4 rfl dX8_advance_160 ?_
          refine lv_iload_n hx hb dX8_advance_163 rfl (lv_at hl 4 rfl) ?_
          refine rij hf hk hw 5 rfl (j := k) (vp_in_nI (by omega) (by omega)) (nI_clamp (by omega)) dX8_advance_164 ?_
          refine lv_tope (y := mmax32 0 (mmin32 99 ((faiths k) - ((2 + 1) * 2)))) pk_us ?_
          refine lv_aload_n hx hb dX8_advance_165 rfl (lv_at hl 3 rfl) ?_
          refine rg hf hk hw hinX8 0 rfl rfl 1 (by decide) w_7 rfl dX8_advance_166 ?_
          refine lv_iconst (v := 2) hx hb dX8_advance_169 (by decide) ?_
          refine rij hf hk hw 1 rfl (j := 2) (vp_in_nI (n := 2) (by omega) (by omega)) (rfl) dX8_advance_170 ?_
          refine lv_icmp_le (tgt := 176) hx hb dX8_advance_171 (by decide) (fun c_25 => ?_) (fun c_25 => ?_)
          · refine lv_aload_n hx hb dX8_advance_176 rfl (lv_at hl 3 rfl) ?_
            refine rg hf hk hw hinX8 0 rfl rfl 6 (by decide) w_8 rfl dX8_advance_177 ?_
            refine lv_iload_n hx hb dX8_advance_180 rfl (lv_at hl 4 rfl) ?_
            refine lv_bipush (v := 12) hx hb dX8_advance_181 (by decide) ?_
            refine lv_aload_n hx hb dX8_advance_183 rfl (lv_at hl 3 rfl) ?_
            refine rg hf hk hw hinX8 0 rfl rfl 6 (by decide) w_8 rfl dX8_advance_184 ?_
            refine lv_iload_n hx hb dX8_advance_187 rfl (lv_at hl 4 rfl) ?_
            refine rij hf hk hw 6 rfl (j := k) (vp_in_nI (by omega) (by omega)) (nI_clamp (by omega)) dX8_advance_188 ?_
            refine lv_aload_n hx hb dX8_advance_189 rfl (lv_at hl 2 rfl) ?_
            refine lv_iload_n hx hb dX8_advance_190 rfl (lv_at hl 5 rfl) ?_
            refine lv_iload hx hb dX8_advance_191 (lv_at hl 0 rfl) ?_
            refine mcU hf hk hst hw (c_X9_pace l g k4 9 RX9 TX9 0 (nI st) (seesF (kinds k) (fogs (st % 6)) (arms (st % 6)) (laws 0) (places k)) rfl) (va_cwO 2 hts gX8_advance_X9_pace_u93X9 rfl rfl rfl w_19 hdU_LightMan_Kind_pace ⟨Nat.le_of_ble_eq_true rfl, Nat.le_of_ble_eq_true rfl⟩) [13] rfl rfl 13 rfl rfl rfl hl.1 rfl (Nat.le_of_ble_eq_true rfl) dX8_advance_193 ⟨Nat.zero_le _, Nat.zero_le _⟩ (W' := [cob t 8 [.ref ak, .ref tl, .ref tf, .ref ta, .ref tk, .ref tg, .ref tp, .ref tm, .int (nI cnt), .int (nI stp), .int z], cin g tl 4 laws, cin g tf 6 fogs, cin g ta 6 arms, cin g tk 8 kinds, cin g tg 8 (upd faiths k (mmax32 0 (mmin32 99 ((faiths k) - ((2 + 1) * 2))))), cin g tp 8 places, cin g tm 8 moved, ckd g ak 6 (kdf k0 k1 k2 k3 k4 k5), cob k0 4 [], cob k1 2 [], cob k2 5 [], cob k3 6 [], cob k4 9 [], cob k5 1 []]) rfl (fun H locs hw => ?_)
            refine lv_iadd hx hb dX8_advance_196 ?_
            refine rmmin hx hb (hf.2.2.1.trans hl.1.symm) hf.2.2.2.1 (hts _ w_9) (hts _ w_10) (hts _ w_11) (hts _ w_12) (Nat.le_of_ble_eq_true rfl) (Nat.le_of_ble_eq_true rfl) (Nat.zero_le _) (Nat.zero_le _) dX8_advance_197 ?_
            refine rsj hf hk hw 6 rfl (j := k) (vp_in_nI (by omega) (by omega)) (nI_clamp (by omega)) dX8_advance_200 (W' := [cob t 8 [.ref ak, .ref tl, .ref tf, .ref ta, .ref tk, .ref tg, .ref tp, .ref tm, .int (nI cnt), .int (nI stp), .int z], cin g tl 4 laws, cin g tf 6 fogs, cin g ta 6 arms, cin g tk 8 kinds, cin g tg 8 (upd faiths k (mmax32 0 (mmin32 99 ((faiths k) - ((2 + 1) * 2))))), cin g tp 8 (upd places k (mmin32 12 ((places k) + (f_X9_pace (nI st))))), cin g tm 8 moved, ckd g ak 6 (kdf k0 k1 k2 k3 k4 k5), cob k0 4 [], cob k1 2 [], cob k2 5 [], cob k3 6 [], cob k4 9 [], cob k5 1 []]) rfl (fun H locs hw => ?_)
            refine lv_iconst (v := 1) hx hb dX8_advance_201 (by decide) ?_
            have hfa : vF (kinds k) (fogs (st % 6)) (arms (st % 6)) (laws 0) (faiths k) (places k) = (mmax32 0 (mmin32 99 ((faiths k) - ((2 + 1) * 2)))) := by unfold vF; rw [if_pos c_23, e_2]; rfl
            have hpa : ∀ x : Int32, paceF (kinds k) (nI st) x = (f_X9_pace (nI st)) := by intro x; rw [e_2]; rfl
            exact re_i hf hr hlk hw (by simp only [n1D, vD, if_pos c_1, if_pos c_23, hfa, if_pos c_24, if_pos c_25, hpa]) (by simp only [aG, vP, vM, upd_id, if_pos c_1, if_pos c_23, hfa, if_pos c_24, if_pos c_25, hpa]) dX8_advance_202
          · refine lv_iconst (v := 2) hx hb dX8_advance_174 (by decide) ?_
            have hfa : vF (kinds k) (fogs (st % 6)) (arms (st % 6)) (laws 0) (faiths k) (places k) = (mmax32 0 (mmin32 99 ((faiths k) - ((2 + 1) * 2)))) := by unfold vF; rw [if_pos c_23, e_2]; rfl
            exact re_i hf hr hlk hw (by simp only [n1D, vD, if_pos c_1, if_pos c_23, hfa, if_pos c_24, if_neg c_25]) (by simp only [aG, vP, vM, upd_id, if_pos c_1, if_pos c_23, hfa, if_pos c_24, if_neg c_25]) dX8_advance_175
        · refine lv_aload_n hx hb dX8_advance_139 rfl (lv_at hl 3 rfl) ?_
          refine rg hf hk hw hinX8 0 rfl rfl 6 (by decide) w_8 rfl dX8_advance_140 ?_
          refine lv_iload_n hx hb dX8_advance_143 rfl (lv_at hl 4 rfl) ?_
          refine lv_iconst (v := 0) hx hb dX8_advance_144 (by decide) ?_
          refine lv_aload_n hx hb dX8_advance_145 rfl (lv_at hl 3 rfl) ?_
          refine rg hf hk hw hinX8 0 rfl rfl 6 (by decide) w_8 rfl dX8_advance_146 ?_
          refine lv_iload_n hx hb dX8_advance_149 rfl (lv_at hl 4 rfl) ?_
          refine rij hf hk hw 6 rfl (j := k) (vp_in_nI (by omega) (by omega)) (nI_clamp (by omega)) dX8_advance_150 ?_
          refine lv_iconst (v := 1) hx hb dX8_advance_151 (by decide) ?_
          refine lv_isub hx hb dX8_advance_152 ?_
          refine rmmax hx hb (hf.2.2.1.trans hl.1.symm) hf.2.2.2.1 (hts _ w_13) (hts _ w_14) (hts _ w_11) (hts _ w_15) (Nat.le_of_ble_eq_true rfl) (Nat.le_of_ble_eq_true rfl) (Nat.zero_le _) (Nat.zero_le _) dX8_advance_153 ?_
          refine rsj hf hk hw 6 rfl (j := k) (vp_in_nI (by omega) (by omega)) (nI_clamp (by omega)) dX8_advance_156 (W' := [cob t 8 [.ref ak, .ref tl, .ref tf, .ref ta, .ref tk, .ref tg, .ref tp, .ref tm, .int (nI cnt), .int (nI stp), .int z], cin g tl 4 laws, cin g tf 6 fogs, cin g ta 6 arms, cin g tk 8 kinds, cin g tg 8 (upd faiths k (mmax32 0 (mmin32 99 ((faiths k) - ((2 + 1) * 2))))), cin g tp 8 (upd places k (mmax32 0 ((places k) - 1))), cin g tm 8 moved, ckd g ak 6 (kdf k0 k1 k2 k3 k4 k5), cob k0 4 [], cob k1 2 [], cob k2 5 [], cob k3 6 [], cob k4 9 [], cob k5 1 []]) rfl (fun H locs hw => ?_)
          refine lv_iconst (v := 3) hx hb dX8_advance_157 (by decide) ?_
          have hfa : vF (kinds k) (fogs (st % 6)) (arms (st % 6)) (laws 0) (faiths k) (places k) = (mmax32 0 (mmin32 99 ((faiths k) - ((2 + 1) * 2)))) := by unfold vF; rw [if_pos c_23, e_2]; rfl
          exact re_i hf hr hlk hw (by simp only [n1D, vD, if_pos c_1, if_pos c_23, hfa, if_neg c_24]) (by simp only [aG, vP, vM, upd_id, if_pos c_1, if_pos c_23, hfa, if_neg c_24]) dX8_advance_158
      · refine lv_aload_n hx hb dX8_advance_41 rfl (lv_at hl 3 rfl) ?_
        refine rg hf hk hw hinX8 0 rfl rfl 5 (by decide) w_4 rfl dX8_advance_42 ?_
        refine lv_iload_n hx hb dX8_advance_45 rfl (lv_at hl 4 rfl) ?_
        refine lv_aload_n hx hb dX8_advance_46 rfl (lv_at hl 3 rfl) ?_
        refine rg hf hk hw hinX8 0 rfl rfl 5 (by decide) w_4 rfl dX8_advance_47 ?_
        refine lv_iload_n hx hb dX8_advance_50 rfl (lv_at hl 4 rfl) ?_
        refine rij hf hk hw 5 rfl (j := k) (vp_in_nI (by omega) (by omega)) (nI_clamp (by omega)) dX8_advance_51 ?_
        refine lv_aload_n hx hb dX8_advance_52 rfl (lv_at hl 2 rfl) ?_
        refine lv_aload_n hx hb dX8_advance_53 rfl (lv_at hl 3 rfl) ?_
        refine rg hf hk hw hinX8 0 rfl rfl 3 (by decide) w_16 rfl dX8_advance_54 ?_
        refine lv_iload hx hb dX8_advance_57 (lv_at hl 1 rfl) ?_
        refine rij hf hk hw 3 rfl (j := st % 6) (vp_in_nI (by omega) (by omega)) (nI_clamp (by omega)) dX8_advance_59 ?_
        refine lv_aload_n hx hb dX8_advance_60 rfl (lv_at hl 3 rfl) ?_
        refine rg hf hk hw hinX8 0 rfl rfl 1 (by decide) w_7 rfl dX8_advance_61 ?_
        refine lv_iconst (v := 0) hx hb dX8_advance_64 (by decide) ?_
        refine rij hf hk hw 1 rfl (j := 0) (vp_in_nI (n := 0) (by omega) (by omega)) (rfl) dX8_advance_65 ?_
        refine mcU hf hk hst hw (c_X9_keen l g k4 9 RX9 TX9 0 (arms (st % 6)) (laws 0) rfl) (va_cwO 2 hts gX8_advance_X9_keen_u75X9 rfl rfl rfl w_20 hdU_LightMan_Kind_keen ⟨Nat.le_of_ble_eq_true rfl, Nat.le_of_ble_eq_true rfl⟩) [13] rfl rfl 13 rfl rfl rfl hl.1 rfl (Nat.le_of_ble_eq_true rfl) dX8_advance_66 ⟨Nat.zero_le _, Nat.zero_le _⟩ (W' := [cob t 8 [.ref ak, .ref tl, .ref tf, .ref ta, .ref tk, .ref tg, .ref tp, .ref tm, .int (nI cnt), .int (nI stp), .int z], cin g tl 4 laws, cin g tf 6 fogs, cin g ta 6 arms, cin g tk 8 kinds, cin g tg 8 faiths, cin g tp 8 places, cin g tm 8 moved, ckd g ak 6 (kdf k0 k1 k2 k3 k4 k5), cob k0 4 [], cob k1 2 [], cob k2 5 [], cob k3 6 [], cob k4 9 [], cob k5 1 []]) rfl (fun H locs hw => ?_)
        refine lv_iadd hx hb dX8_advance_69 ?_
        refine mcN hf hk hst hw (c_X10_heldFaith l g ((faiths k) + ((3 * 2) + 2))) ⟨va_cnB 1 hts gX8_advance_X10_heldFaith_n79 rfl rfl rfl hk.2.1.2 (hts _ w_2) hdS_X10_heldFaith ⟨Nat.le_of_ble_eq_true rfl, Nat.le_of_ble_eq_true rfl⟩, hts _ w_6, trivial⟩ [] rfl rfl rfl hl.1 rfl (Nat.le_of_ble_eq_true rfl) dX8_advance_70 ⟨Nat.zero_le _, Nat.zero_le _⟩ (W' := [cob t 8 [.ref ak, .ref tl, .ref tf, .ref ta, .ref tk, .ref tg, .ref tp, .ref tm, .int (nI cnt), .int (nI stp), .int z], cin g tl 4 laws, cin g tf 6 fogs, cin g ta 6 arms, cin g tk 8 kinds, cin g tg 8 faiths, cin g tp 8 places, cin g tm 8 moved, ckd g ak 6 (kdf k0 k1 k2 k3 k4 k5), cob k0 4 [], cob k1 2 [], cob k2 5 [], cob k3 6 [], cob k4 9 [], cob k5 1 []]) rfl (fun H locs hw => ?_)
        refine rsj hf hk hw 5 rfl (j := k) (vp_in_nI (by omega) (by omega)) (nI_clamp (by omega)) dX8_advance_73 (W' := [cob t 8 [.ref ak, .ref tl, .ref tf, .ref ta, .ref tk, .ref tg, .ref tp, .ref tm, .int (nI cnt), .int (nI stp), .int z], cin g tl 4 laws, cin g tf 6 fogs, cin g ta 6 arms, cin g tk 8 kinds, cin g tg 8 (upd faiths k (mmax32 0 (mmin32 99 ((faiths k) + ((3 * 2) + 2))))), cin g tp 8 places, cin g tm 8 moved, ckd g ak 6 (kdf k0 k1 k2 k3 k4 k5), cob k0 4 [], cob k1 2 [], cob k2 5 [], cob k3 6 [], cob k4 9 [], cob k5 1 []]) rfl (fun H locs hw => ?_)
        refine lv_aload_n hx hb dX8_advance_74 rfl (lv_at hl 3 rfl) ?_
        refine rg hf hk hw hinX8 0 rfl rfl 7 (by decide) w_17 rfl dX8_advance_75 ?_
        refine lv_iload_n hx hb dX8_advance_78 rfl (lv_at hl 4 rfl) ?_
        refine lv_sipush (v := 9999) hx hb dX8_advance_79 (by decide) ?_
        refine lv_aload_n hx hb dX8_advance_82 rfl (lv_at hl 3 rfl) ?_
        refine rg hf hk hw hinX8 0 rfl rfl 7 (by decide) w_17 rfl dX8_advance_83 ?_
        refine lv_iload_n hx hb dX8_advance_86 rfl (lv_at hl 4 rfl) ?_
        refine rij hf hk hw 7 rfl (j := k) (vp_in_nI (by omega) (by omega)) (nI_clamp (by omega)) dX8_advance_87 ?_
        refine lv_iconst (v := 1) hx hb dX8_advance_88 (by decide) ?_
        refine lv_iadd hx hb dX8_advance_89 ?_
        refine rmmin hx hb (hf.2.2.1.trans hl.1.symm) hf.2.2.2.1 (hts _ w_9) (hts _ w_10) (hts _ w_11) (hts _ w_12) (Nat.le_of_ble_eq_true rfl) (Nat.le_of_ble_eq_true rfl) (Nat.zero_le _) (Nat.zero_le _) dX8_advance_90 ?_
        refine rsj hf hk hw 7 rfl (j := k) (vp_in_nI (by omega) (by omega)) (nI_clamp (by omega)) dX8_advance_93 (W' := [cob t 8 [.ref ak, .ref tl, .ref tf, .ref ta, .ref tk, .ref tg, .ref tp, .ref tm, .int (nI cnt), .int (nI stp), .int z], cin g tl 4 laws, cin g tf 6 fogs, cin g ta 6 arms, cin g tk 8 kinds, cin g tg 8 (upd faiths k (mmax32 0 (mmin32 99 ((faiths k) + ((3 * 2) + 2))))), cin g tp 8 places, cin g tm 8 (upd moved k (mmin32 9999 ((moved k) + 1))), ckd g ak 6 (kdf k0 k1 k2 k3 k4 k5), cob k0 4 [], cob k1 2 [], cob k2 5 [], cob k3 6 [], cob k4 9 [], cob k5 1 []]) rfl (fun H locs hw => ?_)
        refine lv_goto (tgt := 124) hx hb dX8_advance_94 (by decide) ?_
        refine lv_aload_n hx hb dX8_advance_124 rfl (lv_at hl 3 rfl) ?_
        refine rg hf hk hw hinX8 0 rfl rfl 5 (by decide) w_4 rfl dX8_advance_125 ?_
        refine lv_iload_n hx hb dX8_advance_128 rfl (lv_at hl 4 rfl) ?_
        refine rij hf hk hw 5 rfl (j := k) (vp_in_nI (by omega) (by omega)) (nI_clamp (by omega)) dX8_advance_129 ?_
        refine lv_tope (y := mmax32 0 (mmin32 99 ((faiths k) + ((3 * 2) + 2)))) pk_us ?_
        refine lv_aload_n hx hb dX8_advance_130 rfl (lv_at hl 3 rfl) ?_
        refine rg hf hk hw hinX8 0 rfl rfl 1 (by decide) w_7 rfl dX8_advance_131 ?_
        refine lv_iconst (v := 1) hx hb dX8_advance_134 (by decide) ?_
        refine rij hf hk hw 1 rfl (j := 1) (vp_in_nI (n := 1) (by omega) (by omega)) (rfl) dX8_advance_135 ?_
        refine lv_icmp_ge (tgt := 159) hx hb dX8_advance_136 (by decide) (fun c_26 => ?_) (fun c_26 => ?_)
        · refine lv_aload_n hx hb dX8_advance_159 rfl (lv_at hl 3 rfl) ?_
          refine rg hf hk hw hinX8 0 rfl rfl 5 (by decide) w_4 rfl dX8_advance_160 ?_
          refine lv_iload_n hx hb dX8_advance_163 rfl (lv_at hl 4 rfl) ?_
          refine rij hf hk hw 5 rfl (j := k) (vp_in_nI (by omega) (by omega)) (nI_clamp (by omega)) dX8_advance_164 ?_
          refine lv_tope (y := mmax32 0 (mmin32 99 ((faiths k) + ((3 * 2) + 2)))) pk_us ?_
          refine lv_aload_n hx hb dX8_advance_165 rfl (lv_at hl 3 rfl) ?_
          refine rg hf hk hw hinX8 0 rfl rfl 1 (by decide) w_7 rfl dX8_advance_166 ?_
          refine lv_iconst (v := 2) hx hb dX8_advance_169 (by decide) ?_
          refine rij hf hk hw 1 rfl (j := 2) (vp_in_nI (n := 2) (by omega) (by omega)) (rfl) dX8_advance_170 ?_
          refine lv_icmp_le (tgt := 176) hx hb dX8_advance_171 (by decide) (fun c_27 => ?_) (fun c_27 => ?_)
          · refine lv_aload_n hx hb dX8_advance_176 rfl (lv_at hl 3 rfl) ?_
            refine rg hf hk hw hinX8 0 rfl rfl 6 (by decide) w_8 rfl dX8_advance_177 ?_
            refine lv_iload_n hx hb dX8_advance_180 rfl (lv_at hl 4 rfl) ?_
            refine lv_bipush (v := 12) hx hb dX8_advance_181 (by decide) ?_
            refine lv_aload_n hx hb dX8_advance_183 rfl (lv_at hl 3 rfl) ?_
            refine rg hf hk hw hinX8 0 rfl rfl 6 (by decide) w_8 rfl dX8_advance_184 ?_
            refine lv_iload_n hx hb dX8_advance_187 rfl (lv_at hl 4 rfl) ?_
            refine rij hf hk hw 6 rfl (j := k) (vp_in_nI (by omega) (by omega)) (nI_clamp (by omega)) dX8_advance_188 ?_
            refine lv_aload_n hx hb dX8_advance_189 rfl (lv_at hl 2 rfl) ?_
            refine lv_iload_n hx hb dX8_advance_190 rfl (lv_at hl 5 rfl) ?_
            refine lv_iload hx hb dX8_advance_191 (lv_at hl 0 rfl) ?_
            refine mcU hf hk hst hw (c_X9_pace l g k4 9 RX9 TX9 0 (nI st) (seesF (kinds k) (fogs (st % 6)) (arms (st % 6)) (laws 0) (places k)) rfl) (va_cwO 2 hts gX8_advance_X9_pace_u93X9 rfl rfl rfl w_19 hdU_LightMan_Kind_pace ⟨Nat.le_of_ble_eq_true rfl, Nat.le_of_ble_eq_true rfl⟩) [13] rfl rfl 13 rfl rfl rfl hl.1 rfl (Nat.le_of_ble_eq_true rfl) dX8_advance_193 ⟨Nat.zero_le _, Nat.zero_le _⟩ (W' := [cob t 8 [.ref ak, .ref tl, .ref tf, .ref ta, .ref tk, .ref tg, .ref tp, .ref tm, .int (nI cnt), .int (nI stp), .int z], cin g tl 4 laws, cin g tf 6 fogs, cin g ta 6 arms, cin g tk 8 kinds, cin g tg 8 (upd faiths k (mmax32 0 (mmin32 99 ((faiths k) + ((3 * 2) + 2))))), cin g tp 8 places, cin g tm 8 (upd moved k (mmin32 9999 ((moved k) + 1))), ckd g ak 6 (kdf k0 k1 k2 k3 k4 k5), cob k0 4 [], cob k1 2 [], cob k2 5 [], cob k3 6 [], cob k4 9 [], cob k5 1 []]) rfl (fun H locs hw => ?_)
            refine lv_iadd hx hb dX8_advance_196 ?_
            refine rmmin hx hb (hf.2.2.1.trans hl.1.symm) hf.2.2.2.1 (hts _ w_9) (hts _ w_10) (hts _ w_11) (hts _ w_12) (Nat.le_of_ble_eq_true rfl) (Nat.le_of_ble_eq_true rfl) (Nat.zero_le _) (Nat.zero_le _) dX8_advance_197 ?_
            refine rsj hf hk hw 6 rfl (j := k) (vp_in_nI (by omega) (by omega)) (nI_clamp (by omega)) dX8_advance_200 (W' := [cob t 8 [.ref ak, .ref tl, .ref tf, .ref ta, .ref tk, .ref tg, .ref tp, .ref tm, .int (nI cnt), .int (nI stp), .int z], cin g tl 4 laws, cin g tf 6 fogs, cin g ta 6 arms, cin g tk 8 kinds, cin g tg 8 (upd faiths k (mmax32 0 (mmin32 99 ((faiths k) + ((3 * 2) + 2))))), cin g tp 8 (upd places k (mmin32 12 ((places k) + (f_X9_pace (nI st))))), cin g tm 8 (upd moved k (mmin32 9999 ((moved k) + 1))), ckd g ak 6 (kdf k0 k1 k2 k3 k4 k5), cob k0 4 [], cob k1 2 [], cob k2 5 [], cob k3 6 [], cob k4 9 [], cob k5 1 []]) rfl (fun H locs hw => ?_)
            refine lv_iconst (v := 1) hx hb dX8_advance_201 (by decide) ?_
            have hfa : vF (kinds k) (fogs (st % 6)) (arms (st % 6)) (laws 0) (faiths k) (places k) = (mmax32 0 (mmin32 99 ((faiths k) + ((3 * 2) + 2)))) := by unfold vF; rw [if_neg c_23, e_2]; rfl
            have hpa : ∀ x : Int32, paceF (kinds k) (nI st) x = (f_X9_pace (nI st)) := by intro x; rw [e_2]; rfl
            exact re_i hf hr hlk hw (by simp only [n1D, vD, if_pos c_1, if_neg c_23, hfa, if_pos c_26, if_pos c_27, hpa]) (by simp only [aG, vP, vM, upd_id, if_pos c_1, if_neg c_23, hfa, if_pos c_26, if_pos c_27, hpa]) dX8_advance_202
          · refine lv_iconst (v := 2) hx hb dX8_advance_174 (by decide) ?_
            have hfa : vF (kinds k) (fogs (st % 6)) (arms (st % 6)) (laws 0) (faiths k) (places k) = (mmax32 0 (mmin32 99 ((faiths k) + ((3 * 2) + 2)))) := by unfold vF; rw [if_neg c_23, e_2]; rfl
            exact re_i hf hr hlk hw (by simp only [n1D, vD, if_pos c_1, if_neg c_23, hfa, if_pos c_26, if_neg c_27]) (by simp only [aG, vP, vM, upd_id, if_pos c_1, if_neg c_23, hfa, if_pos c_26, if_neg c_27]) dX8_advance_175
        · refine lv_aload_n hx hb dX8_advance_139 rfl (lv_at hl 3 rfl) ?_
          refine rg hf hk hw hinX8 0 rfl rfl 6 (by decide) w_8 rfl dX8_advance_140 ?_
          refine lv_iload_n hx hb dX8_advance_143 rfl (lv_at hl 4 rfl) ?_
          refine lv_iconst (v := 0) hx hb dX8_advance_144 (by decide) ?_
          refine lv_aload_n hx hb dX8_advance_145 rfl (lv_at hl 3 rfl) ?_
          refine rg hf hk hw hinX8 0 rfl rfl 6 (by decide) w_8 rfl dX8_advance_146 ?_
          refine lv_iload_n hx hb dX8_advance_149 rfl (lv_at hl 4 rfl) ?_
          refine rij hf hk hw 6 rfl (j := k) (vp_in_nI (by omega) (by omega)) (nI_clamp (by omega)) dX8_advance_150 ?_
          refine lv_iconst (v := 1) hx hb dX8_advance_151 (by decide) ?_
          refine lv_isub hx hb dX8_advance_152 ?_
          refine rmmax hx hb (hf.2.2.1.trans hl.1.symm) hf.2.2.2.1 (hts _ w_13) (hts _ w_14) (hts _ w_11) (hts _ w_15) (Nat.le_of_ble_eq_true rfl) (Nat.le_of_ble_eq_true rfl) (Nat.zero_le _) (Nat.zero_le _) dX8_advance_153 ?_
          refine rsj hf hk hw 6 rfl (j := k) (vp_in_nI (by omega) (by omega)) (nI_clamp (by omega)) dX8_advance_156 (W' := [cob t 8 [.ref ak, .ref tl, .ref tf, .ref ta, .ref tk, .ref tg, .ref tp, .ref tm, .int (nI cnt), .int (nI stp), .int z], cin g tl 4 laws, cin g tf 6 fogs, cin g ta 6 arms, cin g tk 8 kinds, cin g tg 8 (upd faiths k (mmax32 0 (mmin32 99 ((faiths k) + ((3 * 2) + 2))))), cin g tp 8 (upd places k (mmax32 0 ((places k) - 1))), cin g tm 8 (upd moved k (mmin32 9999 ((moved k) + 1))), ckd g ak 6 (kdf k0 k1 k2 k3 k4 k5), cob k0 4 [], cob k1 2 [], cob k2 5 [], cob k3 6 [], cob k4 9 [], cob k5 1 []]) rfl (fun H locs hw => ?_)
          refine lv_iconst (v := 3) hx hb dX8_advance_157 (by decide) ?_
          have hfa : vF (kinds k) (fogs (st % 6)) (arms (st % 6)) (laws 0) (faiths k) (places k) = (mmax32 0 (mmin32 99 ((faiths k) + ((3 * 2) + 2)))) := by unfold vF; rw [if_neg c_23, e_2]; rfl
          exact re_i hf hr hlk hw (by simp only [n1D, vD, if_pos c_1, if_neg c_23, hfa, if_neg c_26]) (by simp only [aG, vP, vM, upd_id, if_pos c_1, if_neg c_23, hfa, if_neg c_26]) dX8_advance_158
    · refine rkj hf hk hw 8 rfl (j := 5) (r := some k5) (by rw [e_2]; exact vp_in_nI (n := 5) (by omega) (by omega)) (by rw [e_2]; rfl) rfl dX8_advance_20 ?_
      refine lv_astore_n (lv' := [(3, .ref k5), (0, .ref t), (1, .int (nI k)), (2, .int (nI st))]) hx hb dX8_advance_21 rfl hl (by decide) rfl (fun ls hl => ?_)
      refine lv_iload_n hx hb dX8_advance_22 rfl (lv_at hl 3 rfl) ?_
      refine mcN hf hk hst hw (c_X10_restOf l g st (by omega)) ⟨va_cnB 1 hts gX8_advance_X10_restOf_n57 rfl rfl rfl hk.2.1.1 (hts _ w_2) hdS_X10_restOf ⟨Nat.le_of_ble_eq_true rfl, Nat.le_of_ble_eq_true rfl⟩, hts _ w_3, trivial⟩ [] rfl rfl rfl hl.1 rfl (Nat.le_of_ble_eq_true rfl) dX8_advance_23 ⟨Nat.zero_le _, Nat.zero_le _⟩ (W' := [cob t 8 [.ref ak, .ref tl, .ref tf, .ref ta, .ref tk, .ref tg, .ref tp, .ref tm, .int (nI cnt), .int (nI stp), .int z], cin g tl 4 laws, cin g tf 6 fogs, cin g ta 6 arms, cin g tk 8 kinds, cin g tg 8 faiths, cin g tp 8 places, cin g tm 8 moved, ckd g ak 6 (kdf k0 k1 k2 k3 k4 k5), cob k0 4 [], cob k1 2 [], cob k2 5 [], cob k3 6 [], cob k4 9 [], cob k5 1 []]) rfl (fun H locs hw => ?_)
      refine lv_istore (lv' := [(4, .int (nI (st % 6))), (3, .ref k5), (0, .ref t), (1, .int (nI k)), (2, .int (nI st))]) hx hb dX8_advance_26 hl (by decide) rfl (fun ls hl => ?_)
      refine lv_aload_n hx hb dX8_advance_28 rfl (lv_at hl 2 rfl) ?_
      refine lv_iload_n hx hb dX8_advance_29 rfl (lv_at hl 3 rfl) ?_
      refine lv_iload_n hx hb dX8_advance_30 rfl (lv_at hl 4 rfl) ?_
      refine mcV hf hk hst hw (c_X8_sees l g t tl tf ta tk tg tp tm laws fogs arms kinds faiths places moved cnt stp z ak k0 k1 k2 k3 k4 k5 k st (by omega) (by omega) (by assumption)) (cwV 2 hts gX8_advance_X8_sees rfl rfl rfl hdV_X8_sees ⟨Nat.le_of_ble_eq_true rfl, Nat.le_of_ble_eq_true rfl⟩) [0, 1, 2, 3, 4, 5, 6, 7, 8, 9, 10, 11, 12, 13, 14] rfl rfl 0 rfl rfl rfl hl.1 rfl (Nat.le_of_ble_eq_true rfl) dX8_advance_31 ⟨Nat.zero_le _, Nat.zero_le _⟩ (W' := [cob t 8 [.ref ak, .ref tl, .ref tf, .ref ta, .ref tk, .ref tg, .ref tp, .ref tm, .int (nI cnt), .int (nI stp), .int z], cin g tl 4 laws, cin g tf 6 fogs, cin g ta 6 arms, cin g tk 8 kinds, cin g tg 8 faiths, cin g tp 8 places, cin g tm 8 moved, ckd g ak 6 (kdf k0 k1 k2 k3 k4 k5), cob k0 4 [], cob k1 2 [], cob k2 5 [], cob k3 6 [], cob k4 9 [], cob k5 1 []]) rfl (fun H locs hw => ?_)
      refine lv_istore (lv' := [(5, .int (seesF (kinds k) (fogs (st % 6)) (arms (st % 6)) (laws 0) (places k))), (4, .int (nI (st % 6))), (3, .ref k5), (0, .ref t), (1, .int (nI k)), (2, .int (nI st))]) hx hb dX8_advance_34 hl (by decide) rfl (fun ls hl => ?_)
      refine lv_iload hx hb dX8_advance_36 (lv_at hl 0 rfl) ?_
      refine lv_if_eq (tgt := 97) hx hb dX8_advance_38 (by decide) (fun c_28 => ?_) (fun c_28 => ?_)
      · refine lv_aload_n hx hb dX8_advance_97 rfl (lv_at hl 3 rfl) ?_
        refine rg hf hk hw hinX8 0 rfl rfl 5 (by decide) w_4 rfl dX8_advance_98 ?_
        refine lv_iload_n hx hb dX8_advance_101 rfl (lv_at hl 4 rfl) ?_
        refine lv_aload_n hx hb dX8_advance_102 rfl (lv_at hl 3 rfl) ?_
        refine rg hf hk hw hinX8 0 rfl rfl 5 (by decide) w_4 rfl dX8_advance_103 ?_
        refine lv_iload_n hx hb dX8_advance_106 rfl (lv_at hl 4 rfl) ?_
        refine rij hf hk hw 5 rfl (j := k) (vp_in_nI (by omega) (by omega)) (nI_clamp (by omega)) dX8_advance_107 ?_
        refine lv_aload_n hx hb dX8_advance_108 rfl (lv_at hl 2 rfl) ?_
        refine lv_aload_n hx hb dX8_advance_109 rfl (lv_at hl 3 rfl) ?_
        refine rg hf hk hw hinX8 0 rfl rfl 2 (by decide) w_5 rfl dX8_advance_110 ?_
        refine lv_iload hx hb dX8_advance_113 (lv_at hl 1 rfl) ?_
        refine rij hf hk hw 2 rfl (j := st % 6) (vp_in_nI (by omega) (by omega)) (nI_clamp (by omega)) dX8_advance_115 ?_
        refine mcU hf hk hst hw (c_X1_fears l g k5 1 RX1 TX1 0 (fogs (st % 6)) rfl) (va_cwO 1 hts gX8_advance_X1_fears_u87X1 rfl rfl rfl w_18 hdU_LightMan_Kind_fears ⟨Nat.le_of_ble_eq_true rfl, Nat.le_of_ble_eq_true rfl⟩) [14] rfl rfl 14 rfl rfl rfl hl.1 rfl (Nat.le_of_ble_eq_true rfl) dX8_advance_116 ⟨Nat.zero_le _, Nat.zero_le _⟩ (W' := [cob t 8 [.ref ak, .ref tl, .ref tf, .ref ta, .ref tk, .ref tg, .ref tp, .ref tm, .int (nI cnt), .int (nI stp), .int z], cin g tl 4 laws, cin g tf 6 fogs, cin g ta 6 arms, cin g tk 8 kinds, cin g tg 8 faiths, cin g tp 8 places, cin g tm 8 moved, ckd g ak 6 (kdf k0 k1 k2 k3 k4 k5), cob k0 4 [], cob k1 2 [], cob k2 5 [], cob k3 6 [], cob k4 9 [], cob k5 1 []]) rfl (fun H locs hw => ?_)
        refine lv_isub hx hb dX8_advance_119 ?_
        refine mcN hf hk hst hw (c_X10_heldFaith l g ((faiths k) - (2 + 3))) ⟨va_cnB 1 hts gX8_advance_X10_heldFaith_n79 rfl rfl rfl hk.2.1.2 (hts _ w_2) hdS_X10_heldFaith ⟨Nat.le_of_ble_eq_true rfl, Nat.le_of_ble_eq_true rfl⟩, hts _ w_6, trivial⟩ [] rfl rfl rfl hl.1 rfl (Nat.le_of_ble_eq_true rfl) dX8_advance_120 ⟨Nat.zero_le _, Nat.zero_le _⟩ (W' := [cob t 8 [.ref ak, .ref tl, .ref tf, .ref ta, .ref tk, .ref tg, .ref tp, .ref tm, .int (nI cnt), .int (nI stp), .int z], cin g tl 4 laws, cin g tf 6 fogs, cin g ta 6 arms, cin g tk 8 kinds, cin g tg 8 faiths, cin g tp 8 places, cin g tm 8 moved, ckd g ak 6 (kdf k0 k1 k2 k3 k4 k5), cob k0 4 [], cob k1 2 [], cob k2 5 [], cob k3 6 [], cob k4 9 [], cob k5 1 []]) rfl (fun H locs hw => ?_)
        refine rsj hf hk hw 5 rfl (j := k) (vp_in_nI (by omega) (by omega)) (nI_clamp (by omega)) dX8_advance_123 (W' := [cob t 8 [.ref ak, .ref tl, .ref tf, .ref ta, .ref tk, .ref tg, .ref tp, .ref tm, .int (nI cnt), .int (nI stp), .int z], cin g tl 4 laws, cin g tf 6 fogs, cin g ta 6 arms, cin g tk 8 kinds, cin g tg 8 (upd faiths k (mmax32 0 (mmin32 99 ((faiths k) - (2 + 3))))), cin g tp 8 places, cin g tm 8 moved, ckd g ak 6 (kdf k0 k1 k2 k3 k4 k5), cob k0 4 [], cob k1 2 [], cob k2 5 [], cob k3 6 [], cob k4 9 [], cob k5 1 []]) rfl (fun H locs hw => ?_)
        refine lv_aload_n hx hb dX8_advance_124 rfl (lv_at hl 3 rfl) ?_
        refine rg hf hk hw hinX8 0 rfl rfl 5 (by decide) w_4 rfl dX8_advance_125 ?_
        refine lv_iload_n hx hb dX8_advance_128 rfl (lv_at hl 4 rfl) ?_
        refine rij hf hk hw 5 rfl (j := k) (vp_in_nI (by omega) (by omega)) (nI_clamp (by omega)) dX8_advance_129 ?_
        refine lv_tope (y := mmax32 0 (mmin32 99 ((faiths k) - (2 + 3)))) pk_us ?_
        refine lv_aload_n hx hb dX8_advance_130 rfl (lv_at hl 3 rfl) ?_
        refine rg hf hk hw hinX8 0 rfl rfl 1 (by decide) w_7 rfl dX8_advance_131 ?_
        refine lv_iconst (v := 1) hx hb dX8_advance_134 (by decide) ?_
        refine rij hf hk hw 1 rfl (j := 1) (vp_in_nI (n := 1) (by omega) (by omega)) (rfl) dX8_advance_135 ?_
        refine lv_icmp_ge (tgt := 159) hx hb dX8_advance_136 (by decide) (fun c_29 => ?_) (fun c_29 => ?_)
        · refine lv_aload_n hx hb dX8_advance_159 rfl (lv_at hl 3 rfl) ?_
          refine rg hf hk hw hinX8 0 rfl rfl 5 (by decide) w_4 rfl dX8_advance_160 ?_
          refine lv_iload_n hx hb dX8_advance_163 rfl (lv_at hl 4 rfl) ?_
          refine rij hf hk hw 5 rfl (j := k) (vp_in_nI (by omega) (by omega)) (nI_clamp (by omega)) dX8_advance_164 ?_
          refine lv_tope (y := mmax32 0 (mmin32 99 ((faiths k) - (2 + 3)))) pk_us ?_
          refine lv_aload_n hx hb dX8_advance_165 rfl (lv_at hl 3 rfl) ?_
          refine rg hf hk hw hinX8 0 rfl rfl 1 (by decide) w_7 rfl dX8_advance_166 ?_
          refine lv_iconst (v := 2) hx hb dX8_advance_169 (by decide) ?_
          refine rij hf hk hw 1 rfl (j := 2) (vp_in_nI (n := 2) (by omega) (by omega)) (rfl) dX8_advance_170 ?_
          refine lv_icmp_le (tgt := 176) hx hb dX8_advance_171 (by decide) (fun c_30 => ?_) (fun c_30 => ?_)
          · refine lv_aload_n hx hb dX8_advance_176 rfl (lv_at hl 3 rfl) ?_
            refine rg hf hk hw hinX8 0 rfl rfl 6 (by decide) w_8 rfl dX8_advance_177 ?_
            refine lv_iload_n hx hb dX8_advance_180 rfl (lv_at hl 4 rfl) ?_
            refine lv_bipush (v := 12) hx hb dX8_advance_181 (by decide) ?_
            refine lv_aload_n hx hb dX8_advance_183 rfl (lv_at hl 3 rfl) ?_
            refine rg hf hk hw hinX8 0 rfl rfl 6 (by decide) w_8 rfl dX8_advance_184 ?_
            refine lv_iload_n hx hb dX8_advance_187 rfl (lv_at hl 4 rfl) ?_
            refine rij hf hk hw 6 rfl (j := k) (vp_in_nI (by omega) (by omega)) (nI_clamp (by omega)) dX8_advance_188 ?_
            refine lv_aload_n hx hb dX8_advance_189 rfl (lv_at hl 2 rfl) ?_
            refine lv_iload_n hx hb dX8_advance_190 rfl (lv_at hl 5 rfl) ?_
            refine lv_iload hx hb dX8_advance_191 (lv_at hl 0 rfl) ?_
            refine mcU hf hk hst hw (c_X1_pace l g k5 1 RX1 TX1 0 (nI st) (seesF (kinds k) (fogs (st % 6)) (arms (st % 6)) (laws 0) (places k)) rfl) (va_cwO 2 hts gX8_advance_X1_pace_u93X1 rfl rfl rfl w_19 hdU_LightMan_Kind_pace ⟨Nat.le_of_ble_eq_true rfl, Nat.le_of_ble_eq_true rfl⟩) [14] rfl rfl 14 rfl rfl rfl hl.1 rfl (Nat.le_of_ble_eq_true rfl) dX8_advance_193 ⟨Nat.zero_le _, Nat.zero_le _⟩ (W' := [cob t 8 [.ref ak, .ref tl, .ref tf, .ref ta, .ref tk, .ref tg, .ref tp, .ref tm, .int (nI cnt), .int (nI stp), .int z], cin g tl 4 laws, cin g tf 6 fogs, cin g ta 6 arms, cin g tk 8 kinds, cin g tg 8 (upd faiths k (mmax32 0 (mmin32 99 ((faiths k) - (2 + 3))))), cin g tp 8 places, cin g tm 8 moved, ckd g ak 6 (kdf k0 k1 k2 k3 k4 k5), cob k0 4 [], cob k1 2 [], cob k2 5 [], cob k3 6 [], cob k4 9 [], cob k5 1 []]) rfl (fun H locs hw => ?_)
            refine lv_iadd hx hb dX8_advance_196 ?_
            refine rmmin hx hb (hf.2.2.1.trans hl.1.symm) hf.2.2.2.1 (hts _ w_9) (hts _ w_10) (hts _ w_11) (hts _ w_12) (Nat.le_of_ble_eq_true rfl) (Nat.le_of_ble_eq_true rfl) (Nat.zero_le _) (Nat.zero_le _) dX8_advance_197 ?_
            refine rsj hf hk hw 6 rfl (j := k) (vp_in_nI (by omega) (by omega)) (nI_clamp (by omega)) dX8_advance_200 (W' := [cob t 8 [.ref ak, .ref tl, .ref tf, .ref ta, .ref tk, .ref tg, .ref tp, .ref tm, .int (nI cnt), .int (nI stp), .int z], cin g tl 4 laws, cin g tf 6 fogs, cin g ta 6 arms, cin g tk 8 kinds, cin g tg 8 (upd faiths k (mmax32 0 (mmin32 99 ((faiths k) - (2 + 3))))), cin g tp 8 (upd places k (mmin32 12 ((places k) + (f_X1_pace (seesF (kinds k) (fogs (st % 6)) (arms (st % 6)) (laws 0) (places k)))))), cin g tm 8 moved, ckd g ak 6 (kdf k0 k1 k2 k3 k4 k5), cob k0 4 [], cob k1 2 [], cob k2 5 [], cob k3 6 [], cob k4 9 [], cob k5 1 []]) rfl (fun H locs hw => ?_)
            refine lv_iconst (v := 1) hx hb dX8_advance_201 (by decide) ?_
            have hfa : vF (kinds k) (fogs (st % 6)) (arms (st % 6)) (laws 0) (faiths k) (places k) = (mmax32 0 (mmin32 99 ((faiths k) - (2 + 3)))) := by unfold vF; rw [if_pos c_28, e_2]; rfl
            have hpa : ∀ x : Int32, paceF (kinds k) (nI st) x = (f_X1_pace x) := by intro x; rw [e_2]; rfl
            exact re_i hf hr hlk hw (by simp only [n1D, vD, if_pos c_1, if_pos c_28, hfa, if_pos c_29, if_pos c_30, hpa]) (by simp only [aG, vP, vM, upd_id, if_pos c_1, if_pos c_28, hfa, if_pos c_29, if_pos c_30, hpa]) dX8_advance_202
          · refine lv_iconst (v := 2) hx hb dX8_advance_174 (by decide) ?_
            have hfa : vF (kinds k) (fogs (st % 6)) (arms (st % 6)) (laws 0) (faiths k) (places k) = (mmax32 0 (mmin32 99 ((faiths k) - (2 + 3)))) := by unfold vF; rw [if_pos c_28, e_2]; rfl
            exact re_i hf hr hlk hw (by simp only [n1D, vD, if_pos c_1, if_pos c_28, hfa, if_pos c_29, if_neg c_30]) (by simp only [aG, vP, vM, upd_id, if_pos c_1, if_pos c_28, hfa, if_pos c_29, if_neg c_30]) dX8_advance_175
        · refine lv_aload_n hx hb dX8_advance_139 rfl (lv_at hl 3 rfl) ?_
          refine rg hf hk hw hinX8 0 rfl rfl 6 (by decide) w_8 rfl dX8_advance_140 ?_
          refine lv_iload_n hx hb dX8_advance_143 rfl (lv_at hl 4 rfl) ?_
          refine lv_iconst (v := 0) hx hb dX8_advance_144 (by decide) ?_
          refine lv_aload_n hx hb dX8_advance_145 rfl (lv_at hl 3 rfl) ?_
          refine rg hf hk hw hinX8 0 rfl rfl 6 (by decide) w_8 rfl dX8_advance_146 ?_
          refine lv_iload_n hx hb dX8_advance_149 rfl (lv_at hl 4 rfl) ?_
          refine rij hf hk hw 6 rfl (j := k) (vp_in_nI (by omega) (by omega)) (nI_clamp (by omega)) dX8_advance_150 ?_
          refine lv_iconst (v := 1) hx hb dX8_advance_151 (by decide) ?_
          refine lv_isub hx hb dX8_advance_152 ?_
          refine rmmax hx hb (hf.2.2.1.trans hl.1.symm) hf.2.2.2.1 (hts _ w_13) (hts _ w_14) (hts _ w_11) (hts _ w_15) (Nat.le_of_ble_eq_true rfl) (Nat.le_of_ble_eq_true rfl) (Nat.zero_le _) (Nat.zero_le _) dX8_advance_153 ?_
          refine rsj hf hk hw 6 rfl (j := k) (vp_in_nI (by omega) (by omega)) (nI_clamp (by omega)) dX8_advance_156 (W' := [cob t 8 [.ref ak, .ref tl, .ref tf, .ref ta, .ref tk, .ref tg, .ref tp, .ref tm, .int (nI cnt), .int (nI stp), .int z], cin g tl 4 laws, cin g tf 6 fogs, cin g ta 6 arms, cin g tk 8 kinds, cin g tg 8 (upd faiths k (mmax32 0 (mmin32 99 ((faiths k) - (2 + 3))))), cin g tp 8 (upd places k (mmax32 0 ((places k) - 1))), cin g tm 8 moved, ckd g ak 6 (kdf k0 k1 k2 k3 k4 k5), cob k0 4 [], cob k1 2 [], cob k2 5 [], cob k3 6 [], cob k4 9 [], cob k5 1 []]) rfl (fun H locs hw => ?_)
          refine lv_iconst (v := 3) hx hb dX8_advance_157 (by decide) ?_
          have hfa : vF (kinds k) (fogs (st % 6)) (arms (st % 6)) (laws 0) (faiths k) (places k) = (mmax32 0 (mmin32 99 ((faiths k) - (2 + 3)))) := by unfold vF; rw [if_pos c_28, e_2]; rfl
          exact re_i hf hr hlk hw (by simp only [n1D, vD, if_pos c_1, if_pos c_28, hfa, if_neg c_29]) (by simp only [aG, vP, vM, upd_id, if_pos c_1, if_pos c_28, hfa, if_neg c_29]) dX8_advance_158
      · refine lv_aload_n hx hb dX8_advance_41 rfl (lv_at hl 3 rfl) ?_
        refine rg hf hk hw hinX8 0 rfl rfl 5 (by decide) w_4 rfl dX8_advance_42 ?_
        refine lv_iload_n hx hb dX8_advance_45 rfl (lv_at hl 4 rfl) ?_
        refine lv_aload_n hx hb dX8_advance_46 rfl (lv_at hl 3 rfl) ?_
        refine rg hf hk hw hinX8 0 rfl rfl 5 (by decide) w_4 rfl dX8_advance_47 ?_
        refine lv_iload_n hx hb dX8_advance_50 rfl (lv_at hl 4 rfl) ?_
        refine rij hf hk hw 5 rfl (j := k) (vp_in_nI (by omega) (by omega)) (nI_clamp (by omega)) dX8_advance_51 ?_
        refine lv_aload_n hx hb dX8_advance_52 rfl (lv_at hl 2 rfl) ?_
        refine lv_aload_n hx hb dX8_advance_53 rfl (lv_at hl 3 rfl) ?_
        refine rg hf hk hw hinX8 0 rfl rfl 3 (by decide) w_16 rfl dX8_advance_54 ?_
        refine lv_iload hx hb dX8_advance_57 (lv_at hl 1 rfl) ?_
        refine rij hf hk hw 3 rfl (j := st % 6) (vp_in_nI (by omega) (by omega)) (nI_clamp (by omega)) dX8_advance_59 ?_
        refine lv_aload_n hx hb dX8_advance_60 rfl (lv_at hl 3 rfl) ?_
        refine rg hf hk hw hinX8 0 rfl rfl 1 (by decide) w_7 rfl dX8_advance_61 ?_
        refine lv_iconst (v := 0) hx hb dX8_advance_64 (by decide) ?_
        refine rij hf hk hw 1 rfl (j := 0) (vp_in_nI (n := 0) (by omega) (by omega)) (rfl) dX8_advance_65 ?_
        refine mcU hf hk hst hw (c_X1_keen l g k5 1 RX1 TX1 0 (arms (st % 6)) (laws 0) rfl) (va_cwO 2 hts gX8_advance_X1_keen_u75X1 rfl rfl rfl w_20 hdU_LightMan_Kind_keen ⟨Nat.le_of_ble_eq_true rfl, Nat.le_of_ble_eq_true rfl⟩) [14] rfl rfl 14 rfl rfl rfl hl.1 rfl (Nat.le_of_ble_eq_true rfl) dX8_advance_66 ⟨Nat.zero_le _, Nat.zero_le _⟩ (W' := [cob t 8 [.ref ak, .ref tl, .ref tf, .ref ta, .ref tk, .ref tg, .ref tp, .ref tm, .int (nI cnt), .int (nI stp), .int z], cin g tl 4 laws, cin g tf 6 fogs, cin g ta 6 arms, cin g tk 8 kinds, cin g tg 8 faiths, cin g tp 8 places, cin g tm 8 moved, ckd g ak 6 (kdf k0 k1 k2 k3 k4 k5), cob k0 4 [], cob k1 2 [], cob k2 5 [], cob k3 6 [], cob k4 9 [], cob k5 1 []]) rfl (fun H locs hw => ?_)
        refine lv_iadd hx hb dX8_advance_69 ?_
        refine mcN hf hk hst hw (c_X10_heldFaith l g ((faiths k) + (3 + (laws 0)))) ⟨va_cnB 1 hts gX8_advance_X10_heldFaith_n79 rfl rfl rfl hk.2.1.2 (hts _ w_2) hdS_X10_heldFaith ⟨Nat.le_of_ble_eq_true rfl, Nat.le_of_ble_eq_true rfl⟩, hts _ w_6, trivial⟩ [] rfl rfl rfl hl.1 rfl (Nat.le_of_ble_eq_true rfl) dX8_advance_70 ⟨Nat.zero_le _, Nat.zero_le _⟩ (W' := [cob t 8 [.ref ak, .ref tl, .ref tf, .ref ta, .ref tk, .ref tg, .ref tp, .ref tm, .int (nI cnt), .int (nI stp), .int z], cin g tl 4 laws, cin g tf 6 fogs, cin g ta 6 arms, cin g tk 8 kinds, cin g tg 8 faiths, cin g tp 8 places, cin g tm 8 moved, ckd g ak 6 (kdf k0 k1 k2 k3 k4 k5), cob k0 4 [], cob k1 2 [], cob k2 5 [], cob k3 6 [], cob k4 9 [], cob k5 1 []]) rfl (fun H locs hw => ?_)
        refine rsj hf hk hw 5 rfl (j := k) (vp_in_nI (by omega) (by omega)) (nI_clamp (by omega)) dX8_advance_73 (W' := [cob t 8 [.ref ak, .ref tl, .ref tf, .ref ta, .ref tk, .ref tg, .ref tp, .ref tm, .int (nI cnt), .int (nI stp), .int z], cin g tl 4 laws, cin g tf 6 fogs, cin g ta 6 arms, cin g tk 8 kinds, cin g tg 8 (upd faiths k (mmax32 0 (mmin32 99 ((faiths k) + (3 + (laws 0)))))), cin g tp 8 places, cin g tm 8 moved, ckd g ak 6 (kdf k0 k1 k2 k3 k4 k5), cob k0 4 [], cob k1 2 [], cob k2 5 [], cob k3 6 [], cob k4 9 [], cob k5 1 []]) rfl (fun H locs hw => ?_)
        refine lv_aload_n hx hb dX8_advance_74 rfl (lv_at hl 3 rfl) ?_
        refine rg hf hk hw hinX8 0 rfl rfl 7 (by decide) w_17 rfl dX8_advance_75 ?_
        refine lv_iload_n hx hb dX8_advance_78 rfl (lv_at hl 4 rfl) ?_
        refine lv_sipush (v := 9999) hx hb dX8_advance_79 (by decide) ?_
        refine lv_aload_n hx hb dX8_advance_82 rfl (lv_at hl 3 rfl) ?_
        refine rg hf hk hw hinX8 0 rfl rfl 7 (by decide) w_17 rfl dX8_advance_83 ?_
        refine lv_iload_n hx hb dX8_advance_86 rfl (lv_at hl 4 rfl) ?_
        refine rij hf hk hw 7 rfl (j := k) (vp_in_nI (by omega) (by omega)) (nI_clamp (by omega)) dX8_advance_87 ?_
        refine lv_iconst (v := 1) hx hb dX8_advance_88 (by decide) ?_
        refine lv_iadd hx hb dX8_advance_89 ?_
        refine rmmin hx hb (hf.2.2.1.trans hl.1.symm) hf.2.2.2.1 (hts _ w_9) (hts _ w_10) (hts _ w_11) (hts _ w_12) (Nat.le_of_ble_eq_true rfl) (Nat.le_of_ble_eq_true rfl) (Nat.zero_le _) (Nat.zero_le _) dX8_advance_90 ?_
        refine rsj hf hk hw 7 rfl (j := k) (vp_in_nI (by omega) (by omega)) (nI_clamp (by omega)) dX8_advance_93 (W' := [cob t 8 [.ref ak, .ref tl, .ref tf, .ref ta, .ref tk, .ref tg, .ref tp, .ref tm, .int (nI cnt), .int (nI stp), .int z], cin g tl 4 laws, cin g tf 6 fogs, cin g ta 6 arms, cin g tk 8 kinds, cin g tg 8 (upd faiths k (mmax32 0 (mmin32 99 ((faiths k) + (3 + (laws 0)))))), cin g tp 8 places, cin g tm 8 (upd moved k (mmin32 9999 ((moved k) + 1))), ckd g ak 6 (kdf k0 k1 k2 k3 k4 k5), cob k0 4 [], cob k1 2 [], cob k2 5 [], cob k3 6 [], cob k4 9 [], cob k5 1 []]) rfl (fun H locs hw => ?_)
        refine lv_goto (tgt := 124) hx hb dX8_advance_94 (by decide) ?_
        refine lv_aload_n hx hb dX8_advance_124 rfl (lv_at hl 3 rfl) ?_
        refine rg hf hk hw hinX8 0 rfl rfl 5 (by decide) w_4 rfl dX8_advance_125 ?_
        refine lv_iload_n hx hb dX8_advance_128 rfl (lv_at hl 4 rfl) ?_
        refine rij hf hk hw 5 rfl (j := k) (vp_in_nI (by omega) (by omega)) (nI_clamp (by omega)) dX8_advance_129 ?_
        refine lv_tope (y := mmax32 0 (mmin32 99 ((faiths k) + (3 + (laws 0))))) pk_us ?_
        refine lv_aload_n hx hb dX8_advance_130 rfl (lv_at hl 3 rfl) ?_
        refine rg hf hk hw hinX8 0 rfl rfl 1 (by decide) w_7 rfl dX8_advance_131 ?_
        refine lv_iconst (v := 1) hx hb dX8_advance_134 (by decide) ?_
        refine rij hf hk hw 1 rfl (j := 1) (vp_in_nI (n := 1) (by omega) (by omega)) (rfl) dX8_advance_135 ?_
        refine lv_icmp_ge (tgt := 159) hx hb dX8_advance_136 (by decide) (fun c_31 => ?_) (fun c_31 => ?_)
        · refine lv_aload_n hx hb dX8_advance_159 rfl (lv_at hl 3 rfl) ?_
          refine rg hf hk hw hinX8 0 rfl rfl 5 (by decide) w_4 rfl dX8_advance_160 ?_
          refine lv_iload_n hx hb dX8_advance_163 rfl (lv_at hl 4 rfl) ?_
          refine rij hf hk hw 5 rfl (j := k) (vp_in_nI (by omega) (by omega)) (nI_clamp (by omega)) dX8_advance_164 ?_
          refine lv_tope (y := mmax32 0 (mmin32 99 ((faiths k) + (3 + (laws 0))))) pk_us ?_
          refine lv_aload_n hx hb dX8_advance_165 rfl (lv_at hl 3 rfl) ?_
          refine rg hf hk hw hinX8 0 rfl rfl 1 (by decide) w_7 rfl dX8_advance_166 ?_
          refine lv_iconst (v := 2) hx hb dX8_advance_169 (by decide) ?_
          refine rij hf hk hw 1 rfl (j := 2) (vp_in_nI (n := 2) (by omega) (by omega)) (rfl) dX8_advance_170 ?_
          refine lv_icmp_le (tgt := 176) hx hb dX8_advance_171 (by decide) (fun c_32 => ?_) (fun c_32 => ?_)
          · refine lv_aload_n hx hb dX8_advance_176 rfl (lv_at hl 3 rfl) ?_
            refine rg hf hk hw hinX8 0 rfl rfl 6 (by decide) w_8 rfl dX8_advance_177 ?_
            refine lv_iload_n hx hb dX8_advance_180 rfl (lv_at hl 4 rfl) ?_
            refine lv_bipush (v := 12) hx hb dX8_advance_181 (by decide) ?_
            refine lv_aload_n hx hb dX8_advance_183 rfl (lv_at hl 3 rfl) ?_
            refine rg hf hk hw hinX8 0 rfl rfl 6 (by decide) w_8 rfl dX8_advance_184 ?_
            refine lv_iload_n hx hb dX8_advance_187 rfl (lv_at hl 4 rfl) ?_
            refine rij hf hk hw 6 rfl (j := k) (vp_in_nI (by omega) (by omega)) (nI_clamp (by omega)) dX8_advance_188 ?_
            refine lv_aload_n hx hb dX8_advance_189 rfl (lv_at hl 2 rfl) ?_
            refine lv_iload_n hx hb dX8_advance_190 rfl (lv_at hl 5 rfl) ?_
            refine lv_iload hx hb dX8_advance_191 (lv_at hl 0 rfl) ?_
            refine mcU hf hk hst hw (c_X1_pace l g k5 1 RX1 TX1 0 (nI st) (seesF (kinds k) (fogs (st % 6)) (arms (st % 6)) (laws 0) (places k)) rfl) (va_cwO 2 hts gX8_advance_X1_pace_u93X1 rfl rfl rfl w_19 hdU_LightMan_Kind_pace ⟨Nat.le_of_ble_eq_true rfl, Nat.le_of_ble_eq_true rfl⟩) [14] rfl rfl 14 rfl rfl rfl hl.1 rfl (Nat.le_of_ble_eq_true rfl) dX8_advance_193 ⟨Nat.zero_le _, Nat.zero_le _⟩ (W' := [cob t 8 [.ref ak, .ref tl, .ref tf, .ref ta, .ref tk, .ref tg, .ref tp, .ref tm, .int (nI cnt), .int (nI stp), .int z], cin g tl 4 laws, cin g tf 6 fogs, cin g ta 6 arms, cin g tk 8 kinds, cin g tg 8 (upd faiths k (mmax32 0 (mmin32 99 ((faiths k) + (3 + (laws 0)))))), cin g tp 8 places, cin g tm 8 (upd moved k (mmin32 9999 ((moved k) + 1))), ckd g ak 6 (kdf k0 k1 k2 k3 k4 k5), cob k0 4 [], cob k1 2 [], cob k2 5 [], cob k3 6 [], cob k4 9 [], cob k5 1 []]) rfl (fun H locs hw => ?_)
            refine lv_iadd hx hb dX8_advance_196 ?_
            refine rmmin hx hb (hf.2.2.1.trans hl.1.symm) hf.2.2.2.1 (hts _ w_9) (hts _ w_10) (hts _ w_11) (hts _ w_12) (Nat.le_of_ble_eq_true rfl) (Nat.le_of_ble_eq_true rfl) (Nat.zero_le _) (Nat.zero_le _) dX8_advance_197 ?_
            refine rsj hf hk hw 6 rfl (j := k) (vp_in_nI (by omega) (by omega)) (nI_clamp (by omega)) dX8_advance_200 (W' := [cob t 8 [.ref ak, .ref tl, .ref tf, .ref ta, .ref tk, .ref tg, .ref tp, .ref tm, .int (nI cnt), .int (nI stp), .int z], cin g tl 4 laws, cin g tf 6 fogs, cin g ta 6 arms, cin g tk 8 kinds, cin g tg 8 (upd faiths k (mmax32 0 (mmin32 99 ((faiths k) + (3 + (laws 0)))))), cin g tp 8 (upd places k (mmin32 12 ((places k) + (f_X1_pace (seesF (kinds k) (fogs (st % 6)) (arms (st % 6)) (laws 0) (places k)))))), cin g tm 8 (upd moved k (mmin32 9999 ((moved k) + 1))), ckd g ak 6 (kdf k0 k1 k2 k3 k4 k5), cob k0 4 [], cob k1 2 [], cob k2 5 [], cob k3 6 [], cob k4 9 [], cob k5 1 []]) rfl (fun H locs hw => ?_)
            refine lv_iconst (v := 1) hx hb dX8_advance_201 (by decide) ?_
            have hfa : vF (kinds k) (fogs (st % 6)) (arms (st % 6)) (laws 0) (faiths k) (places k) = (mmax32 0 (mmin32 99 ((faiths k) + (3 + (laws 0))))) := by unfold vF; rw [if_neg c_28, e_2]; rfl
            have hpa : ∀ x : Int32, paceF (kinds k) (nI st) x = (f_X1_pace x) := by intro x; rw [e_2]; rfl
            exact re_i hf hr hlk hw (by simp only [n1D, vD, if_pos c_1, if_neg c_28, hfa, if_pos c_31, if_pos c_32, hpa]) (by simp only [aG, vP, vM, upd_id, if_pos c_1, if_neg c_28, hfa, if_pos c_31, if_pos c_32, hpa]) dX8_advance_202
          · refine lv_iconst (v := 2) hx hb dX8_advance_174 (by decide) ?_
            have hfa : vF (kinds k) (fogs (st % 6)) (arms (st % 6)) (laws 0) (faiths k) (places k) = (mmax32 0 (mmin32 99 ((faiths k) + (3 + (laws 0))))) := by unfold vF; rw [if_neg c_28, e_2]; rfl
            exact re_i hf hr hlk hw (by simp only [n1D, vD, if_pos c_1, if_neg c_28, hfa, if_pos c_31, if_neg c_32]) (by simp only [aG, vP, vM, upd_id, if_pos c_1, if_neg c_28, hfa, if_pos c_31, if_neg c_32]) dX8_advance_175
        · refine lv_aload_n hx hb dX8_advance_139 rfl (lv_at hl 3 rfl) ?_
          refine rg hf hk hw hinX8 0 rfl rfl 6 (by decide) w_8 rfl dX8_advance_140 ?_
          refine lv_iload_n hx hb dX8_advance_143 rfl (lv_at hl 4 rfl) ?_
          refine lv_iconst (v := 0) hx hb dX8_advance_144 (by decide) ?_
          refine lv_aload_n hx hb dX8_advance_145 rfl (lv_at hl 3 rfl) ?_
          refine rg hf hk hw hinX8 0 rfl rfl 6 (by decide) w_8 rfl dX8_advance_146 ?_
          refine lv_iload_n hx hb dX8_advance_149 rfl (lv_at hl 4 rfl) ?_
          refine rij hf hk hw 6 rfl (j := k) (vp_in_nI (by omega) (by omega)) (nI_clamp (by omega)) dX8_advance_150 ?_
          refine lv_iconst (v := 1) hx hb dX8_advance_151 (by decide) ?_
          refine lv_isub hx hb dX8_advance_152 ?_
          refine rmmax hx hb (hf.2.2.1.trans hl.1.symm) hf.2.2.2.1 (hts _ w_13) (hts _ w_14) (hts _ w_11) (hts _ w_15) (Nat.le_of_ble_eq_true rfl) (Nat.le_of_ble_eq_true rfl) (Nat.zero_le _) (Nat.zero_le _) dX8_advance_153 ?_
          refine rsj hf hk hw 6 rfl (j := k) (vp_in_nI (by omega) (by omega)) (nI_clamp (by omega)) dX8_advance_156 (W' := [cob t 8 [.ref ak, .ref tl, .ref tf, .ref ta, .ref tk, .ref tg, .ref tp, .ref tm, .int (nI cnt), .int (nI stp), .int z], cin g tl 4 laws, cin g tf 6 fogs, cin g ta 6 arms, cin g tk 8 kinds, cin g tg 8 (upd faiths k (mmax32 0 (mmin32 99 ((faiths k) + (3 + (laws 0)))))), cin g tp 8 (upd places k (mmax32 0 ((places k) - 1))), cin g tm 8 (upd moved k (mmin32 9999 ((moved k) + 1))), ckd g ak 6 (kdf k0 k1 k2 k3 k4 k5), cob k0 4 [], cob k1 2 [], cob k2 5 [], cob k3 6 [], cob k4 9 [], cob k5 1 []]) rfl (fun H locs hw => ?_)
          refine lv_iconst (v := 3) hx hb dX8_advance_157 (by decide) ?_
          have hfa : vF (kinds k) (fogs (st % 6)) (arms (st % 6)) (laws 0) (faiths k) (places k) = (mmax32 0 (mmin32 99 ((faiths k) + (3 + (laws 0))))) := by unfold vF; rw [if_neg c_28, e_2]; rfl
          exact re_i hf hr hlk hw (by simp only [n1D, vD, if_pos c_1, if_neg c_28, hfa, if_neg c_31]) (by simp only [aG, vP, vM, upd_id, if_pos c_1, if_neg c_28, hfa, if_neg c_31]) dX8_advance_158
  · refine lv_iconst (v := 0) hx hb dX8_advance_8 (by decide) ?_
    exact re_i hf hr hlk hw (by simp only [n1D, if_neg c_1]) (by simp only [aG, if_neg c_1]) dX8_advance_9
theorem hdV_X8_advance : yX8_advance.cls = RX8 ∧ yX8_advance.cls ≠ "java/lang/invoke/MethodHandle" ∧ yX8_advance.cls ≠ "java/lang/invoke/VarHandle" ∧ (parseMethodDescriptor yX8_advance.desc).map (fun d => d.parameters.length) = some 2 := by decide +kernel
abbrev rmX8_goStep : Room := { frames := 5, cells := 0, slots := 0, locals := 117 }
set_option maxHeartbeats 4000000 in
set_option maxRecDepth 100000 in
theorem c_X8_goStep (l : Launch) (g : GG) (t : Nat) (tl : Nat) (tf : Nat) (ta : Nat) (tk : Nat) (tg : Nat) (tp : Nat) (tm : Nat) (laws : Nat → Int32) (fogs : Nat → Int32) (arms : Nat → Int32) (kinds : Nat → Int32) (faiths : Nat → Int32) (places : Nat → Int32) (moved : Nat → Int32) (cnt : Nat) (stp : Nat) (z : Int32) (ak : Nat) (k0 : Nat) (k1 : Nat) (k2 : Nat) (k3 : Nat) (k4 : Nat) (k5 : Nat) (hc8 : cnt ≤ 8) (hsp : stp < 2 ^ 30) (hkd : ∀ j, j < cnt → isK (kinds j)) : mt l g yX8_goStep wsX8_goStep rmX8_goStep [.ref t] [cob t 8 [.ref ak, .ref tl, .ref tf, .ref ta, .ref tk, .ref tg, .ref tp, .ref tm, .int (nI cnt), .int (nI stp), .int z], cin g tl 4 laws, cin g tf 6 fogs, cin g ta 6 arms, cin g tk 8 kinds, cin g tg 8 faiths, cin g tp 8 places, cin g tm 8 moved, ckd g ak 6 (kdf k0 k1 k2 k3 k4 k5), cob k0 4 [], cob k1 2 [], cob k2 5 [], cob k3 6 [], cob k4 9 [], cob k5 1 []] none [cob t 8 [.ref ak, .ref tl, .ref tf, .ref ta, .ref tk, .ref tg, .ref tp, .ref tm, .int (nI cnt), .int (nI (stp + 1)), .int z], cin g tl 4 laws, cin g tf 6 fogs, cin g ta 6 arms, cin g tk 8 kinds, cin g tg 8 (goF laws fogs arms stp kinds faiths places cnt), cin g tp 8 (goP laws fogs arms stp kinds faiths places cnt), cin g tm 8 (goM laws fogs arms stp kinds places moved cnt), ckd g ak 6 (kdf k0 k1 k2 k3 k4 k5), cob k0 4 [], cob k1 2 [], cob k2 5 [], cob k3 6 [], cob k4 9 [], cob k5 1 []] := by
  refine mt.of (cc := cX8_goStep) (nL := 2) (ret := none) (own := RX8) (by decide +kernel) rfl rfl rfl (Nat.le_of_ble_eq_true rfl) (fun p e s m below meth c hf hr hlk _ hk hst hw ls hl => ?_)
  have hx := hf.1
  have hb := hf.2.1
  have hts := hf.2.2.2.2
  have hl : lv_has ls 2 [(0, .ref t)] := hl
  have hinX8 : ∀ w ∈ u_ws RX8 TX8 11, w ∈ wsX8_goStep := fun w h => List.mem_cons_of_mem _ (List.mem_append_right _ h)
  have w_0 : Cond.fieldLink RX8 47 "LightMan$Tunnel" "count" "I" ∈ wsX8_goStep := List.mem_of_getElem? (i := 1) rfl
  have w_1 : Cond.fieldLink RX8 50 "LightMan$Tunnel" "stepNumber" "I" ∈ wsX8_goStep := List.mem_of_getElem? (i := 2) rfl
  refine lv_iconst (v := 0) hx hb dX8_goStep_0 (by decide) ?_
  refine lv_istore_n (lv' := [(1, .int 0), (0, .ref t)]) hx hb dX8_goStep_1 rfl hl (by decide) rfl (fun ls hl => ?_)
  have lp_2_0 : ∀ (n k : Nat) (fa : Nat → Int32) (pl : Nat → Int32) (mo : Nat → Int32), k ≤ cnt → cnt + 1 ≤ k + n → fa = goF laws fogs arms stp kinds faiths places k → pl = goP laws fogs arms stp kinds faiths places k → mo = goM laws fogs arms stp kinds places moved k → ∀ (H : Heap) (locs : List Loc), hv g (va_I [cob t 8 [.ref ak, .ref tl, .ref tf, .ref ta, .ref tk, .ref tg, .ref tp, .ref tm, .int (nI cnt), .int (nI stp), .int z], cin g tl 4 laws, cin g tf 6 fogs, cin g ta 6 arms, cin g tk 8 kinds, cin g tg 8 faiths, cin g tp 8 places, cin g tm 8 moved, ckd g ak 6 (kdf k0 k1 k2 k3 k4 k5), cob k0 4 [], cob k1 2 [], cob k2 5 [], cob k3 6 [], cob k4 9 [], cob k5 1 []]) s H locs [cob t 8 [.ref ak, .ref tl, .ref tf, .ref ta, .ref tk, .ref tg, .ref tp, .ref tm, .int (nI cnt), .int (nI stp), .int z], cin g tl 4 laws, cin g tf 6 fogs, cin g ta 6 arms, cin g tk 8 kinds, cin g tg 8 fa, cin g tp 8 pl, cin g tm 8 mo, ckd g ak 6 (kdf k0 k1 k2 k3 k4 k5), cob k0 4 [], cob k1 2 [], cob k2 5 [], cob k3 6 [], cob k4 9 [], cob k5 1 []] → ∀ ls : Array Slot, lv_has ls 2 [(1, .int (nI k)), (0, .ref t)] → W p l e rmX8_goStep s m ([.ref t] : List Value).toArray below meth c H locs 0 0 (MQ below (mtQ g [cob t 8 [.ref ak, .ref tl, .ref tf, .ref ta, .ref tk, .ref tg, .ref tp, .ref tm, .int (nI cnt), .int (nI stp), .int z], cin g tl 4 laws, cin g tf 6 fogs, cin g ta 6 arms, cin g tk 8 kinds, cin g tg 8 faiths, cin g tp 8 places, cin g tm 8 moved, ckd g ak 6 (kdf k0 k1 k2 k3 k4 k5), cob k0 4 [], cob k1 2 [], cob k2 5 [], cob k3 6 [], cob k4 9 [], cob k5 1 []] none [cob t 8 [.ref ak, .ref tl, .ref tf, .ref ta, .ref tk, .ref tg, .ref tp, .ref tm, .int (nI cnt), .int (nI (stp + 1)), .int z], cin g tl 4 laws, cin g tf 6 fogs, cin g ta 6 arms, cin g tk 8 kinds, cin g tg 8 (goF laws fogs arms stp kinds faiths places cnt), cin g tp 8 (goP laws fogs arms stp kinds faiths places cnt), cin g tm 8 (goM laws fogs arms stp kinds places moved cnt), ckd g ak 6 (kdf k0 k1 k2 k3 k4 k5), cob k0 4 [], cob k1 2 [], cob k2 5 [], cob k3 6 [], cob k4 9 [], cob k5 1 []]) ([.ref t] : List Value).toArray s 0 0 (va_I [cob t 8 [.ref ak, .ref tl, .ref tf, .ref ta, .ref tk, .ref tg, .ref tp, .ref tm, .int (nI cnt), .int (nI stp), .int z], cin g tl 4 laws, cin g tf 6 fogs, cin g ta 6 arms, cin g tk 8 kinds, cin g tg 8 faiths, cin g tp 8 places, cin g tm 8 moved, ckd g ak 6 (kdf k0 k1 k2 k3 k4 k5), cob k0 4 [], cob k1 2 [], cob k2 5 [], cob k3 6 [], cob k4 9 [], cob k5 1 []])) (F0 m 2 ls []) := by
    intro n
    induction n with
    | zero =>
      intro k fa pl mo h1 h2
      exact absurd h2 (by omega)
    | succ n ih_2 =>
      intro k fa pl mo hk1_2 hk2_2 efa epl emo H locs hw ls hl
      refine lv_iload_n hx hb dX8_goStep_2 rfl (lv_at hl 0 rfl) ?_
      refine lv_aload_n hx hb dX8_goStep_3 rfl (lv_at hl 1 rfl) ?_
      refine rg hf hk hw hinX8 0 rfl rfl 8 (by decide) w_0 rfl dX8_goStep_4 ?_
      refine lv_icmp_ge (tgt := 26) hx hb dX8_goStep_7 (by decide) (fun c_2 => ?_) (fun c_2 => ?_)
      · have hkE : k = cnt := Nat.le_antisymm hk1_2 ((nI_leI (by omega) (by omega)).mp c_2)
        rw [hkE] at efa epl emo
        refine lv_aload_n hx hb dX8_goStep_26 rfl (lv_at hl 1 rfl) ?_
        refine lv_dup hx hb dX8_goStep_27 rfl ?_
        refine rg hf hk hw hinX8 0 rfl rfl 9 (by decide) w_1 rfl dX8_goStep_28 ?_
        refine lv_iconst (v := 1) hx hb dX8_goStep_31 (by decide) ?_
        refine lv_iadd hx hb dX8_goStep_32 ?_
        refine lv_tope (y := nI (stp + 1)) (nI_1 _) ?_
        refine rp hf hk hw hinX8 tyX8 tyX8_ok nmX8 0 rfl rfl 9 (by decide) w_1 rfl (rfl) rfl (Nat.le_of_ble_eq_true rfl) dX8_goStep_33 (W' := [cob t 8 [.ref ak, .ref tl, .ref tf, .ref ta, .ref tk, .ref tg, .ref tp, .ref tm, .int (nI cnt), .int (nI (stp + 1)), .int z], cin g tl 4 laws, cin g tf 6 fogs, cin g ta 6 arms, cin g tk 8 kinds, cin g tg 8 fa, cin g tp 8 pl, cin g tm 8 mo, ckd g ak 6 (kdf k0 k1 k2 k3 k4 k5), cob k0 4 [], cob k1 2 [], cob k2 5 [], cob k3 6 [], cob k4 9 [], cob k5 1 []]) rfl (fun H locs hw => ?_)
        exact re_v hf hr hlk hw (by rw [efa, epl, emo]) dX8_goStep_36
      · have hkE : k < cnt := Nat.not_le.mp (fun h => c_2 ((nI_leI (by omega) (by omega)).mpr h))
        refine lv_aload_n hx hb dX8_goStep_10 rfl (lv_at hl 1 rfl) ?_
        refine lv_iload_n hx hb dX8_goStep_11 rfl (lv_at hl 0 rfl) ?_
        refine lv_aload_n hx hb dX8_goStep_12 rfl (lv_at hl 1 rfl) ?_
        refine rg hf hk hw hinX8 0 rfl rfl 9 (by decide) w_1 rfl dX8_goStep_13 ?_
        refine mcV hf hk hst hw (c_X8_advance l g t tl tf ta tk tg tp tm laws fogs arms kinds fa pl mo cnt stp z ak k0 k1 k2 k3 k4 k5 k stp (by omega) (by omega) (hkd k hkE)) (cwV 2 hts gX8_goStep_X8_advance rfl rfl rfl hdV_X8_advance ⟨Nat.le_of_ble_eq_true rfl, Nat.le_of_ble_eq_true rfl⟩) [0, 1, 2, 3, 4, 5, 6, 7, 8, 9, 10, 11, 12, 13, 14] rfl rfl 0 rfl rfl rfl hl.1 rfl (Nat.le_of_ble_eq_true rfl) dX8_goStep_16 ⟨Nat.zero_le _, Nat.zero_le _⟩ (W' := [cob t 8 [.ref ak, .ref tl, .ref tf, .ref ta, .ref tk, .ref tg, .ref tp, .ref tm, .int (nI cnt), .int (nI stp), .int z], cin g tl 4 laws, cin g tf 6 fogs, cin g ta 6 arms, cin g tk 8 kinds, cin g tg 8 (aG (thrF (pl k)) fa k (vF (kinds k) (fogs (stp % 6)) (arms (stp % 6)) (laws 0) (fa k) (pl k))), cin g tp 8 (aG (thrF (pl k)) pl k (vP (kinds k) (nI stp) (seesF (kinds k) (fogs (stp % 6)) (arms (stp % 6)) (laws 0) (pl k)) (laws 1) (laws 2) (vF (kinds k) (fogs (stp % 6)) (arms (stp % 6)) (laws 0) (fa k) (pl k)) (pl k))), cin g tm 8 (aG (thrF (pl k)) mo k (vM (kinds k) (fogs (stp % 6)) (arms (stp % 6)) (laws 0) (pl k) (mo k))), ckd g ak 6 (kdf k0 k1 k2 k3 k4 k5), cob k0 4 [], cob k1 2 [], cob k2 5 [], cob k3 6 [], cob k4 9 [], cob k5 1 []]) rfl (fun H locs hw => ?_)
        refine lv_pop hx hb dX8_goStep_19 rfl ?_
        refine lv_iinc (v := nI (k + 1)) (lv' := [(1, .int (nI (k + 1))), (0, .ref t)]) hx hb dX8_goStep_20 hl (k := 0) rfl (nI_1 _) (by decide) rfl (fun ls hl => ?_)
        refine lv_goto (tgt := 2) hx hb dX8_goStep_23 (by decide) ?_
        exact ih_2 (k + 1) (aG (thrF (pl k)) fa k (vF (kinds k) (fogs (stp % 6)) (arms (stp % 6)) (laws 0) (fa k) (pl k))) (aG (thrF (pl k)) pl k (vP (kinds k) (nI stp) (seesF (kinds k) (fogs (stp % 6)) (arms (stp % 6)) (laws 0) (pl k)) (laws 1) (laws 2) (vF (kinds k) (fogs (stp % 6)) (arms (stp % 6)) (laws 0) (fa k) (pl k)) (pl k))) (aG (thrF (pl k)) mo k (vM (kinds k) (fogs (stp % 6)) (arms (stp % 6)) (laws 0) (pl k) (mo k))) (by omega) (by omega) (goF_s efa epl) (goP_s efa epl) (goM_s epl emo) _ _ hw _ (lv_sub hl [0, 1] rfl)
  exact lp_2_0 (cnt + 1) 0 faiths places moved (by omega) (by omega) (goF_0 _ _ _ _ _ _ _) (goP_0 _ _ _ _ _ _ _) (goM_0 _ _ _ _ _ _ _) _ _ hw _ (lv_sub hl [0, 1] rfl)
