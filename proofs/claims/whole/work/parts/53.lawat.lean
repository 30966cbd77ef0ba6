/-! the law's walk: what it stands on -/
def LC (p : Program) (s : State) (m : MethodId) (meth : Method) (c : Code) (g : GG) (b L : Nat) (xs : Nat → Int32) : Prop :=
  CallFix p m c cL_law 4 s #[Value.ref b] wsL_law RL ∧ kk g s ∧ kN s ∧ sta g (fun q => s.heap.size ≤ q) s s.heap ∧ va_X b L xs s s.heap ∧ b < s.heap.size ∧ L ≤ 2560
section LAW53
variable {p : Program} {l : Launch} {e : Env} {s : State} {m : MethodId} {below : List Frame} {meth : Method} {c : Code} {H : Heap} {locs : List Loc} {cells slots : Nat} {Q : State → Prop} {g : GG} {b L i pc : Nat} {xs : Nat → Int32} {ls : Array Slot} {rest : List Value} {oh lh : Nat} {W0 : va_W}
theorem lsc1 (C : LC p s m meth c g b L xs) (hw : hv g (fun q => s.heap.size ≤ q) s H locs W0) (hl : lv_has ls 4 [(3, .int (nI (5 * i))), (2, .ref oh), (1, .ref lh), (0, .ref b)]) (hi : 5 * i + 5 ≤ L) (h0 : decode cL_law pc = .ok (.aload_n 0, 1)) (h1 : decode cL_law (pc + 1) = .ok (.iload_n 3, 1)) (h2 : decode cL_law (pc + 2) = .ok (.iconst 1, 1)) (h3 : decode cL_law (pc + 3) = .ok (.iadd, 1)) (h4 : decode cL_law (pc + 4) = .ok (.iaload, 1))
    (k : W p l e room_1 s m #[Value.ref b] below meth c H locs cells slots Q (F0 m (pc + 5) ls (.int (xs (5 * i + 1)) :: rest))) : W p l e room_1 s m #[Value.ref b] below meth c H locs cells slots Q (F0 m pc ls rest) := by
  obtain ⟨hf, -, -, -, hX, hbl, hL⟩ := C
  have hx := hf.1
  have hb := hf.2.1
  refine lv_aload_n hx hb h0 rfl (lv_at hl 3 rfl) ?_
  refine lv_iload_n hx hb h1 rfl (lv_at hl 0 rfl) ?_
  refine lv_iconst (v := 1) hx hb h2 (by decide) ?_
  refine lv_iadd hx hb h3 ?_
  refine lv_tope (y := nI (5 * i + 1)) (nI_add (5 * i) 1) ?_
  refine va_sld hx hb hX hbl (Nat.not_le.mpr hbl) hw.2.2 (vp_in_nI (by omega) (by omega)) h4 ?_
  exact lv_tope (y := xs (5 * i + 1)) (congrArg xs (nI_clamp (by omega))) k
theorem lsc2 (C : LC p s m meth c g b L xs) (hw : hv g (fun q => s.heap.size ≤ q) s H locs W0) (hl : lv_has ls 4 [(3, .int (nI (5 * i))), (2, .ref oh), (1, .ref lh), (0, .ref b)]) (hi : 5 * i + 5 ≤ L) (h0 : decode cL_law pc = .ok (.aload_n 0, 1)) (h1 : decode cL_law (pc + 1) = .ok (.iload_n 3, 1)) (h2 : decode cL_law (pc + 2) = .ok (.iconst 2, 1)) (h3 : decode cL_law (pc + 3) = .ok (.iadd, 1)) (h4 : decode cL_law (pc + 4) = .ok (.iaload, 1))
    (k : W p l e room_1 s m #[Value.ref b] below meth c H locs cells slots Q (F0 m (pc + 5) ls (.int (xs (5 * i + 2)) :: rest))) : W p l e room_1 s m #[Value.ref b] below meth c H locs cells slots Q (F0 m pc ls rest) := by
  obtain ⟨hf, -, -, -, hX, hbl, hL⟩ := C
  have hx := hf.1
  have hb := hf.2.1
  refine lv_aload_n hx hb h0 rfl (lv_at hl 3 rfl) ?_
  refine lv_iload_n hx hb h1 rfl (lv_at hl 0 rfl) ?_
  refine lv_iconst (v := 2) hx hb h2 (by decide) ?_
  refine lv_iadd hx hb h3 ?_
  refine lv_tope (y := nI (5 * i + 2)) (nI_add (5 * i) 2) ?_
  refine va_sld hx hb hX hbl (Nat.not_le.mpr hbl) hw.2.2 (vp_in_nI (by omega) (by omega)) h4 ?_
  exact lv_tope (y := xs (5 * i + 2)) (congrArg xs (nI_clamp (by omega))) k
theorem lsc3 (C : LC p s m meth c g b L xs) (hw : hv g (fun q => s.heap.size ≤ q) s H locs W0) (hl : lv_has ls 4 [(3, .int (nI (5 * i))), (2, .ref oh), (1, .ref lh), (0, .ref b)]) (hi : 5 * i + 5 ≤ L) (h0 : decode cL_law pc = .ok (.aload_n 0, 1)) (h1 : decode cL_law (pc + 1) = .ok (.iload_n 3, 1)) (h2 : decode cL_law (pc + 2) = .ok (.iconst 3, 1)) (h3 : decode cL_law (pc + 3) = .ok (.iadd, 1)) (h4 : decode cL_law (pc + 4) = .ok (.iaload, 1))
    (k : W p l e room_1 s m #[Value.ref b] below meth c H locs cells slots Q (F0 m (pc + 5) ls (.int (xs (5 * i + 3)) :: rest))) : W p l e room_1 s m #[Value.ref b] below meth c H locs cells slots Q (F0 m pc ls rest) := by
  obtain ⟨hf, -, -, -, hX, hbl, hL⟩ := C
  have hx := hf.1
  have hb := hf.2.1
  refine lv_aload_n hx hb h0 rfl (lv_at hl 3 rfl) ?_
  refine lv_iload_n hx hb h1 rfl (lv_at hl 0 rfl) ?_
  refine lv_iconst (v := 3) hx hb h2 (by decide) ?_
  refine lv_iadd hx hb h3 ?_
  refine lv_tope (y := nI (5 * i + 3)) (nI_add (5 * i) 3) ?_
  refine va_sld hx hb hX hbl (Nat.not_le.mpr hbl) hw.2.2 (vp_in_nI (by omega) (by omega)) h4 ?_
  exact lv_tope (y := xs (5 * i + 3)) (congrArg xs (nI_clamp (by omega))) k
theorem lsc4 (C : LC p s m meth c g b L xs) (hw : hv g (fun q => s.heap.size ≤ q) s H locs W0) (hl : lv_has ls 4 [(3, .int (nI (5 * i))), (2, .ref oh), (1, .ref lh), (0, .ref b)]) (hi : 5 * i + 5 ≤ L) (h0 : decode cL_law pc = .ok (.aload_n 0, 1)) (h1 : decode cL_law (pc + 1) = .ok (.iload_n 3, 1)) (h2 : decode cL_law (pc + 2) = .ok (.iconst 4, 1)) (h3 : decode cL_law (pc + 3) = .ok (.iadd, 1)) (h4 : decode cL_law (pc + 4) = .ok (.iaload, 1))
    (k : W p l e room_1 s m #[Value.ref b] below meth c H locs cells slots Q (F0 m (pc + 5) ls (.int (xs (5 * i + 4)) :: rest))) : W p l e room_1 s m #[Value.ref b] below meth c H locs cells slots Q (F0 m pc ls rest) := by
  obtain ⟨hf, -, -, -, hX, hbl, hL⟩ := C
  have hx := hf.1
  have hb := hf.2.1
  refine lv_aload_n hx hb h0 rfl (lv_at hl 3 rfl) ?_
  refine lv_iload_n hx hb h1 rfl (lv_at hl 0 rfl) ?_
  refine lv_iconst (v := 4) hx hb h2 (by decide) ?_
  refine lv_iadd hx hb h3 ?_
  refine lv_tope (y := nI (5 * i + 4)) (nI_add (5 * i) 4) ?_
  refine va_sld hx hb hX hbl (Nat.not_le.mpr hbl) hw.2.2 (vp_in_nI (by omega) (by omega)) h4 ?_
  exact lv_tope (y := xs (5 * i + 4)) (congrArg xs (nI_clamp (by omega))) k
theorem lfin (C : LC p s m meth c g b L xs) (hl : lv_has ls 4 [(3, .int (nI (5 * i))), (2, .ref oh), (1, .ref lh), (0, .ref b)]) (k : ∀ ls, lv_has ls 4 [(3, .int (nI (5 * (i + 1)))), (2, .ref oh), (1, .ref lh), (0, .ref b)] → W p l e room_1 s m #[Value.ref b] below meth c H locs cells slots Q (F0 m 18 ls [])) : W p l e room_1 s m #[Value.ref b] below meth c H locs cells slots Q (F0 m 1665 ls []) := by
  obtain ⟨hf, -⟩ := C
  have hx := hf.1
  have hb := hf.2.1
  refine lv_iinc (v := nI (5 * (i + 1))) (lv' := [(3, .int (nI (5 * (i + 1)))), (2, .ref oh), (1, .ref lh), (0, .ref b)]) hx hb dL_law_1665 hl (k := 0) rfl (nI_add (5 * i) 5) (by decide) rfl (fun ls hl => ?_)
  refine lv_goto (tgt := 18) hx hb dL_law_1668 (by decide) ?_
  exact k ls hl
end LAW53
def LG (p : Program) (l : Launch) (e : Env) (s : State) (m : MethodId) (below : List Frame) (meth : Method) (c : Code) (Q : State → Prop) (g : GG) (b i : Nat) : Prop :=
  ∀ {pl : List PE} {lh : Nat} {ak : Nat} {t : Nat} {yt : Nat} {xt : Nat} {isk : Int32} {ltp : Nat} {lrw : Nat} {rc : Nat} {lac : Nat} {lsh : Nat} {lhh : Nat} {lhg : Nat} {lhr : Nat} {sht : Nat → Option Nat} {tl : Nat} {tf : Nat} {ta : Nat} {tk : Nat} {tg : Nat} {tp : Nat} {tm : Nat} {cnt : Nat} {stp : Nat} {z : Int32} {laws : Nat → Int32} {fogs : Nat → Int32} {arms : Nat → Int32} {kinds : Nat → Int32} {faiths : Nat → Int32} {places : Nat → Int32} {moved : Nat → Int32} {k0 : Nat} {k1 : Nat} {k2 : Nat} {k3 : Nat} {k4 : Nat} {k5 : Nat} {ytl : Nat} {ytf : Nat} {yta : Nat} {ytk : Nat} {ytg : Nat} {ytp : Nat} {ytm : Nat} {ycnt : Nat} {ystp : Nat} {yz : Int32} {ylaws : Nat → Int32} {yfogs : Nat → Int32} {yarms : Nat → Int32} {ykinds : Nat → Int32} {yfaiths : Nat → Int32} {yplaces : Nat → Int32} {ymoved : Nat → Int32} {xtl : Nat} {xtf : Nat} {xta : Nat} {xtk : Nat} {xtg : Nat} {xtp : Nat} {xtm : Nat} {xcnt : Nat} {xstp : Nat} {xz : Int32} {xlaws : Nat → Int32} {xfogs : Nat → Int32} {xarms : Nat → Int32} {xkinds : Nat → Int32} {xfaiths : Nat → Int32} {xplaces : Nat → Int32} {xmoved : Nat → Int32} {rows : Nat → Int32} {lby : Nat} {tsz : Nat} {tso : Int32} {tst : Int32} {ten : Int32} {an : Int32} {ap : Int32} {ab : Int32} {bg : Nat} {lbd : Nat} {bod : Nat → Int32} {shh : Nat → Int32} {shg : Nat → Int32} {byt : Nat → Int32} {shr : Nat → Option Nat} {oh : Nat} {os : Nat} {ok : Nat} {ol : Nat} {ord : Nat} {odd : Nat} {otp : Nat} {olt : Nat} {oat : Int32} {obg : Int32} {otk : Int32} {ovl : Int32} {orw : Nat} {oso : Nat} {osz : Nat} {oit : Nat} {oho : Nat} {ohe : Nat} {otr : Nat} {own_ : Int32} {opt : Int32} {mk : Nat → Int32} {mf : Nat → Int32} {mp : Nat → Int32} {mm : Nat → Int32} {vstp : Nat} {vlaws : Nat → Int32} {vz : Int32} {vcnt : Nat} {vfogs : Nat → Int32} {varms : Nat → Int32} {vk : Nat → Int32} {vf : Nat → Int32} {vp : Nat → Int32} {vm : Nat → Int32} {lr : Nat → Int32} {rr : Nat → Int32} {dd : Nat → Int32} {srt : Nat → Int32} {szs : Nat → Int32} {its : Nat → Int32} {hds : Nat → Int32} {hdo : Nat → Int32} {H : Heap} {locs : List Loc}, hv g (fun q => s.heap.size ≤ q) s H locs (cob lh 10 [.ref ak, .ref t, .ref yt, .ref xt, .int isk, .ref ltp, .ref lrw, .int (nI rc), .ref lac, .ref lsh, .ref lhh, .ref lhg, .ref lhr] :: cit g lsh 4 sht :: cob t 8 [.ref ak, .ref tl, .ref tf, .ref ta, .ref tk, .ref tg, .ref tp, .ref tm, .int (nI cnt), .int (nI stp), .int z] :: cin g tl 4 laws :: cin g tf 6 fogs :: cin g ta 6 arms :: cin g tk 8 kinds :: cin g tg 8 faiths :: cin g tp 8 places :: cin g tm 8 moved :: ckd g ak 6 (kdf k0 k1 k2 k3 k4 k5) :: cob k0 4 [] :: cob k1 2 [] :: cob k2 5 [] :: cob k3 6 [] :: cob k4 9 [] :: cob k5 1 [] :: cob yt 8 [.ref ak, .ref ytl, .ref ytf, .ref yta, .ref ytk, .ref ytg, .ref ytp, .ref ytm, .int (nI ycnt), .int (nI ystp), .int yz] :: cin g ytl 4 ylaws :: cin g ytf 6 yfogs :: cin g yta 6 yarms :: cin g ytk 8 ykinds :: cin g ytg 8 yfaiths :: cin g ytp 8 yplaces :: cin g ytm 8 ymoved :: cob xt 8 [.ref ak, .ref xtl, .ref xtf, .ref xta, .ref xtk, .ref xtg, .ref xtp, .ref xtm, .int (nI xcnt), .int (nI xstp), .int xz] :: cin g xtl 4 xlaws :: cin g xtf 6 xfogs :: cin g xta 6 xarms :: cin g xtk 8 xkinds :: cin g xtg 8 xfaiths :: cin g xtp 8 xplaces :: cin g xtm 8 xmoved :: cin g lrw 30 rows :: cob ltp 7 [.ref lby, .int (nI tsz), .int tso, .int tst, .int ten] :: cob lac 0 [.int an, .int ap, .int ab, .int (nI bg), .ref lbd] :: cin g lbd 30 bod :: cin g lhh 4 shh :: cin g lhg 4 shg :: cby g lby 200 byt :: cit g lhr 4 shr :: cob oh 11 [.ref os, .ref ok, .ref ol, .ref ord, .int isk, .ref odd, .ref otp, .int (nI tsz), .ref olt, .int oat, .int obg, .int otk, .int ovl, .ref orw, .int (nI rc), .ref oso, .ref osz, .ref oit, .ref oho, .ref ohe, .ref otr, .int (nI bg), .int own_, .int opt] :: cin g os 51 (mR stp laws z cnt fogs arms mk mf mp mm) :: cin g ok 51 (mR vstp vlaws vz vcnt vfogs varms vk vf vp vm) :: cin g ol 51 lr :: cin g ord 51 rr :: cin g odd 8 dd :: cin g otp 200 (ubT byt) :: cch g olt 120 mlet :: cin g orw 30 rows :: cin g oso 4 srt :: cin g osz 4 szs :: cin g oit 160 its :: cin g oho 4 hds :: cin g ohe 4 hdo :: cin g otr 30 bod :: plW g pl) → RN i cnt stp kinds faiths places moved mk mf mp mm → RK i isk ycnt ystp yz ylaws yfogs yarms ykinds yfaiths yplaces ymoved vstp vlaws vz vcnt vfogs varms vk vf vp vm → RS pl sht srt szs its → RH pl shh shg shr hds hdo → (rc ≤ 10 ∧ bg ≤ 30 ∧ tsz ≤ 200 ∧ ∀ j, isB (byt j)) → ∀ {ls : Array Slot}, lv_has ls 4 [(3, .int (nI (5 * i))), (2, .ref oh), (1, .ref lh), (0, .ref b)] → W p l e room_1 s m #[Value.ref b] below meth c H locs (100 + 2 * i) (2000 + 42 * i) Q (F0 m 18 ls [])
