theorem lawgo {L j : Nat} {v4 : Int32} (hL : L ≤ 3072) (hj : 6 * j ≤ 3072 + 6) (hv : v4 = nI (6 * j)) (h : ¬ Int32.ofNat L - 6 < v4) : 6 * j + 6 ≤ L := by
  rw [hv, Int32.lt_iff_toInt_lt] at h
  have e1 : (Int32.ofNat L - 6).toInt = (L : Int) - 6 := pk_sub_toInt (a := L) (b := 6) (by omega) (by omega)
  have e2 : (nI (6 * j)).toInt = ((6 * j : Nat) : Int) := nI_toInt (by omega)
  rw [e1, e2] at h
  omega
set_option maxHeartbeats 4000000 in
set_option maxRecDepth 100000 in
/-- THE LAW'S LOOP: at its head, with j calls done, the states keep I -/
theorem law_loop {p : Program} {l : Launch} (hlt : l.stackTraces = false) {e : Env} {s : State} {m : MethodId} {below : List Frame} {meth : Method} {c : Code} {D : va_G} {b L : Nat} {xs : Nat → Int32} (hL : L ≤ 3072) (C : jc p s m #[Value.ref b] c code 7 RL wsL_law (fun q : Nat => s.heap.size ≤ q)) (hr : meth.sig.returnType = ret) (hlk : meth.locks = false) (hX : va_X b L xs s s.heap) (hbl : b < s.heap.size) (hxw : xw s) (hxz : xz (fun q : Nat => s.heap.size ≤ q) s s.heap) {I : Nat → GS → MS → Prop} (S : sm_all I 512) (Si : sm_idle I 512) (a : Nat → Nat) (k : Nat → ClassId) (am : Nat → Nat) (km : Nat → ClassId) (qo : Nat) (ko : ClassId) (K : jk D (ltt k km ko) s) :
    ∀ (n j : Nat) (gM : Nat → Int32) (gnC : Int32) (gbC : Nat → Int32) (gnL : Int32) (gbL : Nat → Int32) (gnF : Int32) (gbF : Nat → Int32) (gnQ : Int32) (gbQ : Nat → Int32) (gE : Nat → Nat → Int32) (gtp : Int32) (glf : Int32) (gtr : Int32) (glh : Int32) (gov : Int32) (mW : Nat → Int32) (mC : Nat → Int32) (mL : Nat → Int32) (mR : Nat → Int32) (mQ : Nat → Int32) (mE : Nat → Int32) (mtb : Int32) (mnC : Int32) (mnL : Int32) (mnR : Int32) (mov : Int32) (mnQ : Int32) (mwr : Int32) (mwl : Int32) (mft : Int32) (mth : Int32) (mpl : Int32) (out : Nat → Int64) (v4 : Int32), j ≤ 512 → 512 + 1 ≤ j + n → v4 = nI (6 * j) → I j (gM, gnC, gbC, gnL, gbL, gnF, gbF, gnQ, gbQ, gE, gtp, glf, gtr, glh, gov) (mW, mC, mL, mR, mQ, mE, mtb, mnC, mnL, mnR, mov, mnQ, mwr, mwl, mft, mth, mpl) → jw p l e room_1 s m #[Value.ref b] below meth c 7 D (fun q : Nat => s.heap.size ≤ q) (30 + j) (33300 + 6 * j) (lw_Z below #[Value.ref b] s) (lww a k am km qo ko gM gnC gbC gnL gbL gnF gbF gnQ gbQ gE gtp glf gtr glh gov mW mC mL mR mQ mE mtb mnC mnL mnR mov mnQ mwr mwl mft mth mpl out) [(0, .ref b), (1, .ref (a 0)), (2, .ref (am 0)), (3, .ref qo), (4, .int v4)] 23 [] := by
  have hbA : ¬ (fun q : Nat => s.heap.size ≤ q) b := Nat.not_le.mpr hbl
  intro n
  induction n with
  | zero =>
    intro j gM gnC gbC gnL gbL gnF gbF gnQ gbQ gE gtp glf gtr glh gov mW mC mL mR mQ mE mtb mnC mnL mnR mov mnQ mwr mwl mft mth mpl out v4 h1 h2
    exact absurd h2 (by omega)
  | succ n ih =>
    intro j gM gnC gbC gnL gbL gnF gbF gnQ gbQ gE gtp glf gtr glh gov mW mC mL mR mQ mE mtb mnC mnL mnR mov mnQ mwr mwl mft mth mpl out v4 hj hjn hv hI
    refine j_iload (pc := 23) C 4 dL_law_23 rfl ?_
    refine j_aload_n (pc := 25) C 0 dL_law_25 rfl rfl ?_
    refine j_slen (pc := 26) C hX hbl hbA dL_law_26 ?_
    refine j_bipush (pc := 27) (v := 6) C dL_law_27 (by decide) ?_
    refine j_isub (pc := 29) C dL_law_29 ?_
    refine j_icmp_gt (pc := 30) (tgt := 952) C dL_law_30 (by decide) (fun h1 => ?_) (fun h1 => ?_)
    · refine j_iconst (pc := 952) (v := 1) C dL_law_952 (by decide) ?_
      exact j_lret (pc := 953) C hr hlk (by omega) (by omega) dL_law_953
    · have hj6 : 6 * j + 6 ≤ L := lawgo hL (by omega) hv h1
      have hjL : j < 512 := by omega
      have hv0 : vp_in v4 L := by rw [hv]; exact vp_in_nI (by omega) (by omega)
      refine j_aload_n (pc := 33) C 0 dL_law_33 rfl rfl ?_
      refine j_iload (pc := 34) C 4 dL_law_34 rfl ?_
      refine j_sld (pc := 36) C hX hbl hbA hv0 dL_law_36 ?_
      refine j_bipush (pc := 37) (v := 31) C dL_law_37 (by decide) ?_
      refine j_iand (pc := 39) C dL_law_39 ?_
      have ih2 : ∀ (j2 : Nat) (gM : Nat → Int32) (gnC : Int32) (gbC : Nat → Int32) (gnL : Int32) (gbL : Nat → Int32) (gnF : Int32) (gbF : Nat → Int32) (gnQ : Int32) (gbQ : Nat → Int32) (gE : Nat → Nat → Int32) (gtp : Int32) (glf : Int32) (gtr : Int32) (glh : Int32) (gov : Int32) (mW : Nat → Int32) (mC : Nat → Int32) (mL : Nat → Int32) (mR : Nat → Int32) (mQ : Nat → Int32) (mE : Nat → Int32) (mtb : Int32) (mnC : Int32) (mnL : Int32) (mnR : Int32) (mov : Int32) (mnQ : Int32) (mwr : Int32) (mwl : Int32) (mft : Int32) (mth : Int32) (mpl : Int32) (out : Nat → Int64) (v4 : Int32), j2 = j + 1 → v4 = nI (6 * j2) → I j2 (gM, gnC, gbC, gnL, gbL, gnF, gbF, gnQ, gbQ, gE, gtp, glf, gtr, glh, gov) (mW, mC, mL, mR, mQ, mE, mtb, mnC, mnL, mnR, mov, mnQ, mwr, mwl, mft, mth, mpl) → jw p l e room_1 s m #[Value.ref b] below meth c 7 D (fun q : Nat => s.heap.size ≤ q) (30 + j2) (33300 + 6 * j2) (lw_Z below #[Value.ref b] s) (lww a k am km qo ko gM gnC gbC gnL gbL gnF gbF gnQ gbQ gE gtp glf gtr glh gov mW mC mL mR mQ mE mtb mnC mnL mnR mov mnQ mwr mwl mft mth mpl out) [(0, .ref b), (1, .ref (a 0)), (2, .ref (am 0)), (3, .ref qo), (4, .int v4)] 23 [] := fun j2 gM gnC gbC gnL gbL gnF gbF gnQ gbQ gE gtp glf gtr glh gov mW mC mL mR mQ mE mtb mnC mnL mnR mov mnQ mwr mwl mft mth mpl out v4 e2 h2 h3 => ih j2 _ _ _ _ _ _ _ _ _ _ _ _ _ _ _ _ _ _ _ _ _ _ _ _ _ _ _ _ _ _ _ _ out v4 (by omega) (by omega) h2 h3
      by_cases k0 : (xs v4.toNatClampNeg &&& 31) = 0
      · refine j_tin (pc := 40) (tgt := 140) (off := 100) C dL_law_40 (by rw [k0]; decide) (by rw [k0]; decide) (by rw [k0]; rfl) (by decide) ?_
        exact lawc_poke hlt hL C hr hlk hX hbl hxw hxz S.1 a k am km qo ko K j hjL hj6 v4 hv _ _ _ _ _ _ _ _ _ _ _ _ _ _ _ _ _ _ _ _ _ _ _ _ _ _ _ _ _ _ _ _ out hI ih2
      by_cases k1 : (xs v4.toNatClampNeg &&& 31) = 1
      · refine j_tin (pc := 40) (tgt := 180) (off := 140) C dL_law_40 (by rw [k1]; decide) (by rw [k1]; decide) (by rw [k1]; rfl) (by decide) ?_
        exact lawc_peek hlt hL C hr hlk hX hbl hxw hxz S.2.1 a k am km qo ko K j hjL hj6 v4 hv _ _ _ _ _ _ _ _ _ _ _ _ _ _ _ _ _ _ _ _ _ _ _ _ _ _ _ _ _ _ _ _ out hI ih2
      by_cases k2 : (xs v4.toNatClampNeg &&& 31) = 2
      · refine j_tin (pc := 40) (tgt := 208) (off := 168) C dL_law_40 (by rw [k2]; decide) (by rw [k2]; decide) (by rw [k2]; rfl) (by decide) ?_
        exact lawc_fill hlt hL C hr hlk hX hbl hxw hxz S.2.2.1 a k am km qo ko K j hjL hj6 v4 hv _ _ _ _ _ _ _ _ _ _ _ _ _ _ _ _ _ _ _ _ _ _ _ _ _ _ _ _ _ _ _ _ out hI ih2
      by_cases k3 : (xs v4.toNatClampNeg &&& 31) = 3
      · refine j_tin (pc := 40) (tgt := 269) (off := 229) C dL_law_40 (by rw [k3]; decide) (by rw [k3]; decide) (by rw [k3]; rfl) (by decide) ?_
        exact lawc_table hlt hL C hr hlk hX hbl hxw hxz S.2.2.2.1 a k am km qo ko K j hjL hj6 v4 hv _ _ _ _ _ _ _ _ _ _ _ _ _ _ _ _ _ _ _ _ _ _ _ _ _ _ _ _ _ _ _ _ out hI ih2
      by_cases k4 : (xs v4.toNatClampNeg &&& 31) = 4
      · refine j_tin (pc := 40) (tgt := 294) (off := 254) C dL_law_40 (by rw [k4]; decide) (by rw [k4]; decide) (by rw [k4]; rfl) (by decide) ?_
        exact lawc_context hlt hL C hr hlk hX hbl hxw hxz S.2.2.2.2.1 a k am km qo ko K j hjL hj6 v4 hv _ _ _ _ _ _ _ _ _ _ _ _ _ _ _ _ _ _ _ _ _ _ _ _ _ _ _ _ _ _ _ _ out hI ih2
      by_cases k5 : (xs v4.toNatClampNeg &&& 31) = 5
      · refine j_tin (pc := 40) (tgt := 371) (off := 331) C dL_law_40 (by rw [k5]; decide) (by rw [k5]; decide) (by rw [k5]; rfl) (by decide) ?_
        exact lawc_enter hlt hL C hr hlk hX hbl hxw hxz S.2.2.2.2.2.1 a k am km qo ko K j hjL hj6 v4 hv _ _ _ _ _ _ _ _ _ _ _ _ _ _ _ _ _ _ _ _ _ _ _ _ _ _ _ _ _ _ _ _ out hI ih2
      by_cases k6 : (xs v4.toNatClampNeg &&& 31) = 6
      · refine j_tin (pc := 40) (tgt := 460) (off := 420) C dL_law_40 (by rw [k6]; decide) (by rw [k6]; decide) (by rw [k6]; rfl) (by decide) ?_
        exact lawc_read hlt hL C hr hlk hX hbl hxw hxz S.2.2.2.2.2.2.1 a k am km qo ko K j hjL hj6 v4 hv _ _ _ _ _ _ _ _ _ _ _ _ _ _ _ _ _ _ _ _ _ _ _ _ _ _ _ _ _ _ _ _ out hI ih2
      by_cases k7 : (xs v4.toNatClampNeg &&& 31) = 7
      · refine j_tin (pc := 40) (tgt := 500) (off := 460) C dL_law_40 (by rw [k7]; decide) (by rw [k7]; decide) (by rw [k7]; rfl) (by decide) ?_
        exact lawc_write hlt hL C hr hlk hX hbl hxw hxz S.2.2.2.2.2.2.2.1 a k am km qo ko K j hjL hj6 v4 hv _ _ _ _ _ _ _ _ _ _ _ _ _ _ _ _ _ _ _ _ _ _ _ _ _ _ _ _ _ _ _ _ out hI ih2
      by_cases k8 : (xs v4.toNatClampNeg &&& 31) = 8
      · refine j_tin (pc := 40) (tgt := 549) (off := 509) C dL_law_40 (by rw [k8]; decide) (by rw [k8]; decide) (by rw [k8]; rfl) (by decide) ?_
        exact lawc_fault hlt hL C hr hlk hX hbl hxw hxz S.2.2.2.2.2.2.2.2.1 a k am km qo ko K j hjL hj6 v4 hv _ _ _ _ _ _ _ _ _ _ _ _ _ _ _ _ _ _ _ _ _ _ _ _ _ _ _ _ _ _ _ _ out hI ih2
      by_cases k9 : (xs v4.toNatClampNeg &&& 31) = 9
      · refine j_tin (pc := 40) (tgt := 562) (off := 522) C dL_law_40 (by rw [k9]; decide) (by rw [k9]; decide) (by rw [k9]; rfl) (by decide) ?_
        exact lawc_ring hlt hL C hr hlk hX hbl hxw hxz S.2.2.2.2.2.2.2.2.2.1 a k am km qo ko K j hjL hj6 v4 hv _ _ _ _ _ _ _ _ _ _ _ _ _ _ _ _ _ _ _ _ _ _ _ _ _ _ _ _ _ _ _ _ out hI ih2
      by_cases k10 : (xs v4.toNatClampNeg &&& 31) = 10
      · refine j_tin (pc := 40) (tgt := 611) (off := 571) C dL_law_40 (by rw [k10]; decide) (by rw [k10]; decide) (by rw [k10]; rfl) (by decide) ?_
        exact lawc_tail hlt hL C hr hlk hX hbl hxw hxz S.2.2.2.2.2.2.2.2.2.2.1 a k am km qo ko K j hjL hj6 v4 hv _ _ _ _ _ _ _ _ _ _ _ _ _ _ _ _ _ _ _ _ _ _ _ _ _ _ _ _ _ _ _ _ out hI ih2
      by_cases k11 : (xs v4.toNatClampNeg &&& 31) = 11
      · refine j_tin (pc := 40) (tgt := 648) (off := 608) C dL_law_40 (by rw [k11]; decide) (by rw [k11]; decide) (by rw [k11]; rfl) (by decide) ?_
        exact lawc_step hlt hL C hr hlk hX hbl hxw hxz S.2.2.2.2.2.2.2.2.2.2.2.1 a k am km qo ko K j hjL hj6 v4 hv _ _ _ _ _ _ _ _ _ _ _ _ _ _ _ _ _ _ _ _ _ _ _ _ _ _ _ _ _ _ _ _ out hI ih2
      by_cases k12 : (xs v4.toNatClampNeg &&& 31) = 12
      · refine j_tin (pc := 40) (tgt := 685) (off := 645) C dL_law_40 (by rw [k12]; decide) (by rw [k12]; decide) (by rw [k12]; rfl) (by decide) ?_
        exact lawc_resume hlt hL C hr hlk hX hbl hxw hxz S.2.2.2.2.2.2.2.2.2.2.2.2.1 a k am km qo ko K j hjL hj6 v4 hv _ _ _ _ _ _ _ _ _ _ _ _ _ _ _ _ _ _ _ _ _ _ _ _ _ _ _ _ _ _ _ _ out hI ih2
      by_cases k13 : (xs v4.toNatClampNeg &&& 31) = 13
      · refine j_tin (pc := 40) (tgt := 710) (off := 670) C dL_law_40 (by rw [k13]; decide) (by rw [k13]; decide) (by rw [k13]; rfl) (by decide) ?_
        exact lawc_engine hlt hL C hr hlk hX hbl hxw hxz S.2.2.2.2.2.2.2.2.2.2.2.2.2.1 a k am km qo ko K j hjL hj6 v4 hv _ _ _ _ _ _ _ _ _ _ _ _ _ _ _ _ _ _ _ _ _ _ _ _ _ _ _ _ _ _ _ _ out hI ih2
      by_cases k14 : (xs v4.toNatClampNeg &&& 31) = 14
      · refine j_tin (pc := 40) (tgt := 747) (off := 707) C dL_law_40 (by rw [k14]; decide) (by rw [k14]; decide) (by rw [k14]; rfl) (by decide) ?_
        exact lawc_command hlt hL C hr hlk hX hbl hxw hxz S.2.2.2.2.2.2.2.2.2.2.2.2.2.2.1 a k am km qo ko K j hjL hj6 v4 hv _ _ _ _ _ _ _ _ _ _ _ _ _ _ _ _ _ _ _ _ _ _ _ _ _ _ _ _ _ _ _ _ out hI ih2
      by_cases k15 : (xs v4.toNatClampNeg &&& 31) = 15
      · refine j_tin (pc := 40) (tgt := 796) (off := 756) C dL_law_40 (by rw [k15]; decide) (by rw [k15]; decide) (by rw [k15]; rfl) (by decide) ?_
        exact lawc_obey hlt hL C hr hlk hX hbl hxw hxz S.2.2.2.2.2.2.2.2.2.2.2.2.2.2.2.1 a k am km qo ko K j hjL hj6 v4 hv _ _ _ _ _ _ _ _ _ _ _ _ _ _ _ _ _ _ _ _ _ _ _ _ _ _ _ _ _ _ _ _ out hI ih2
      by_cases k16 : (xs v4.toNatClampNeg &&& 31) = 16
      · refine j_tin (pc := 40) (tgt := 821) (off := 781) C dL_law_40 (by rw [k16]; decide) (by rw [k16]; decide) (by rw [k16]; rfl) (by decide) ?_
        exact lawc_count hlt hL C hr hlk hX hbl hxw hxz S.2.2.2.2.2.2.2.2.2.2.2.2.2.2.2.2.1 a k am km qo ko K j hjL hj6 v4 hv _ _ _ _ _ _ _ _ _ _ _ _ _ _ _ _ _ _ _ _ _ _ _ _ _ _ _ _ _ _ _ _ out hI ih2
      by_cases k17 : (xs v4.toNatClampNeg &&& 31) = 17
      · refine j_tin (pc := 40) (tgt := 846) (off := 806) C dL_law_40 (by rw [k17]; decide) (by rw [k17]; decide) (by rw [k17]; rfl) (by decide) ?_
        exact lawc_record hlt hL C hr hlk hX hbl hxw hxz S.2.2.2.2.2.2.2.2.2.2.2.2.2.2.2.2.2.1 a k am km qo ko K j hjL hj6 v4 hv _ _ _ _ _ _ _ _ _ _ _ _ _ _ _ _ _ _ _ _ _ _ _ _ _ _ _ _ _ _ _ _ out hI ih2
      by_cases k18 : (xs v4.toNatClampNeg &&& 31) = 18
      · refine j_tin (pc := 40) (tgt := 883) (off := 843) C dL_law_40 (by rw [k18]; decide) (by rw [k18]; decide) (by rw [k18]; rfl) (by decide) ?_
        exact lawc_drop hlt hL C hr hlk hX hbl hxw hxz S.2.2.2.2.2.2.2.2.2.2.2.2.2.2.2.2.2.2.1 a k am km qo ko K j hjL hj6 v4 hv _ _ _ _ _ _ _ _ _ _ _ _ _ _ _ _ _ _ _ _ _ _ _ _ _ _ _ _ _ _ _ _ out hI ih2
      by_cases k19 : (xs v4.toNatClampNeg &&& 31) = 19
      · refine j_tin (pc := 40) (tgt := 896) (off := 856) C dL_law_40 (by rw [k19]; decide) (by rw [k19]; decide) (by rw [k19]; rfl) (by decide) ?_
        exact lawc_clear hlt hL C hr hlk hX hbl hxw hxz S.2.2.2.2.2.2.2.2.2.2.2.2.2.2.2.2.2.2.2.1 a k am km qo ko K j hjL hj6 v4 hv _ _ _ _ _ _ _ _ _ _ _ _ _ _ _ _ _ _ _ _ _ _ _ _ _ _ _ _ _ _ _ _ out hI ih2
      by_cases k20 : (xs v4.toNatClampNeg &&& 31) = 20
      · refine j_tin (pc := 40) (tgt := 909) (off := 869) C dL_law_40 (by rw [k20]; decide) (by rw [k20]; decide) (by rw [k20]; rfl) (by decide) ?_
        exact lawc_leaf hlt hL C hr hlk hX hbl hxw hxz S.2.2.2.2.2.2.2.2.2.2.2.2.2.2.2.2.2.2.2.2 a k am km qo ko K j hjL hj6 v4 hv _ _ _ _ _ _ _ _ _ _ _ _ _ _ _ _ _ _ _ _ _ _ _ _ _ _ _ _ _ _ _ _ out hI ih2
      have ek0 : (xs v4.toNatClampNeg &&& 31).toInt ≠ 0 := i32_ne k0
      have ek1 : (xs v4.toNatClampNeg &&& 31).toInt ≠ 1 := i32_ne k1
      have ek2 : (xs v4.toNatClampNeg &&& 31).toInt ≠ 2 := i32_ne k2
      have ek3 : (xs v4.toNatClampNeg &&& 31).toInt ≠ 3 := i32_ne k3
      have ek4 : (xs v4.toNatClampNeg &&& 31).toInt ≠ 4 := i32_ne k4
      have ek5 : (xs v4.toNatClampNeg &&& 31).toInt ≠ 5 := i32_ne k5
      have ek6 : (xs v4.toNatClampNeg &&& 31).toInt ≠ 6 := i32_ne k6
      have ek7 : (xs v4.toNatClampNeg &&& 31).toInt ≠ 7 := i32_ne k7
      have ek8 : (xs v4.toNatClampNeg &&& 31).toInt ≠ 8 := i32_ne k8
      have ek9 : (xs v4.toNatClampNeg &&& 31).toInt ≠ 9 := i32_ne k9
      have ek10 : (xs v4.toNatClampNeg &&& 31).toInt ≠ 10 := i32_ne k10
      have ek11 : (xs v4.toNatClampNeg &&& 31).toInt ≠ 11 := i32_ne k11
      have ek12 : (xs v4.toNatClampNeg &&& 31).toInt ≠ 12 := i32_ne k12
      have ek13 : (xs v4.toNatClampNeg &&& 31).toInt ≠ 13 := i32_ne k13
      have ek14 : (xs v4.toNatClampNeg &&& 31).toInt ≠ 14 := i32_ne k14
      have ek15 : (xs v4.toNatClampNeg &&& 31).toInt ≠ 15 := i32_ne k15
      have ek16 : (xs v4.toNatClampNeg &&& 31).toInt ≠ 16 := i32_ne k16
      have ek17 : (xs v4.toNatClampNeg &&& 31).toInt ≠ 17 := i32_ne k17
      have ek18 : (xs v4.toNatClampNeg &&& 31).toInt ≠ 18 := i32_ne k18
      have ek19 : (xs v4.toNatClampNeg &&& 31).toInt ≠ 19 := i32_ne k19
      have ek20 : (xs v4.toNatClampNeg &&& 31).toInt ≠ 20 := i32_ne k20
      refine j_tout (pc := 40) (tgt := 946) C dL_law_40 (by omega) (by decide) ?_
      exact lawc_none hlt hL C hr hlk hX hbl hxw hxz Si a k am km qo ko K j hjL hj6 v4 hv _ _ _ _ _ _ _ _ _ _ _ _ _ _ _ _ _ _ _ _ _ _ _ _ _ _ _ _ _ _ _ _ out hI ih2
def G0 : GS := ((fun _ => 0), 0, (fun _ => 0), 0, (fun _ => 0), 0, (fun _ => 0), 0, (fun _ => 0), (fun _ => e00), 0, 0, 0, 0, 0)
def M0 : MS := ((fun _ => 0), (fun _ => 0), (fun _ => 0), (fun _ => 0), (fun _ => 0), me00, 0, 0, 0, 0, 0, 0, 0, 0, 0, 0, 0)
set_option maxHeartbeats 4000000 in
set_option maxRecDepth 100000 in
/-- THE LAW, from its entry, over what the pure side gives -/
theorem law_start (I : Nat → GS → MS → Prop) (S : sm_all I 512) (Si : sm_idle I 512) (hI0 : I 0 G0 M0) {p : Program} {e : Env} {s : State} {m : MethodId} {below : List Frame} {meth : Method} {c : Code} (l : Launch) (hlt : l.stackTraces = false) {b L : Nat} {xs : Nat → Int32} (hL : L ≤ 3072) (C0 : lw_At p s m meth c b L xs) : W p l e room_1 s m #[Value.ref b] below meth c s.heap [] 0 0 (lw_Z below #[Value.ref b] s) (entryFrame m ([Value.ref b] : List Value).toArray 7) := by
  obtain ⟨hx, hb, hr, hml, hown, hts0, hX, hbl, hlocks, hgv⟩ := id C0
  have hts := fun w h => hts0 w (wsL_law_in w h)
  have hA : ∀ q : Nat, s.heap.size ≤ q → (fun q : Nat => s.heap.size ≤ q) q := fun _ h => h
  obtain ⟨c0, iS0, hKn0⟩ := u_known (C := RX0) (T := TX0) (N := 12) (n := 12) hts inlX0 (hts (.instantiable RX0 12) (by decide +kernel))
  obtain ⟨c1, iS1, hKn1⟩ := u_known (C := RX1) (T := TX1) (N := 4) (n := 4) hts inlX1 (hts (.instantiable RX1 4) (by decide +kernel))
  obtain ⟨c2, iS2, hKn2⟩ := u_known (C := RX2) (T := TX2) (N := 11) (n := 11) hts inlX2 (hts (.instantiable RX2 11) (by decide +kernel))
  obtain ⟨c3, iS3, hKn3⟩ := u_known (C := RX3) (T := TX3) (N := 17) (n := 17) hts inlX3 (hts (.instantiable RX3 17) (by decide +kernel))
  obtain ⟨dC, dI, hKc⟩ : ∃ (dC : Nat → ClassId) (dI : Nat → Nat → Nat), ∀ (k : Nat) (q : vw_C), vwCl[k]? = some q → u_Kn s q.1 q.2.1 q.2.2 (dC k) (dI k) := by
    refine ⟨fun k => if k = 0 then c0 else if k = 1 then c1 else if k = 2 then c2 else c3, fun k => if k = 0 then iS0 else if k = 1 then iS1 else if k = 2 then iS2 else iS3, ?_⟩
    intro k q hq
    match k, hq with
    | 0, hq => cases hq; exact hKn0
    | 1, hq => cases hq; exact hKn1
    | 2, hq => cases hq; exact hKn2
    | 3, hq => cases hq; exact hKn3
    | k + 4, hq => simp [vwCl] at hq
  have hnw : nwA s := by
    intro w hw
    have h1 := hts0 w ((by decide +kernel : ∀ w ∈ nwL, w ∈ lw_tbl) w hw)
    rcases (by decide +kernel : ∀ w ∈ nwL, w.onTables = true ∨ w = .arrayOver (.object RX0)) w hw with k | rfl
    · exact va_Nw.of k h1
    · exact va_AO.of h1
  have hxw : xw s := fun w hw => va_Nw.of ((by decide +kernel : ∀ w ∈ xB, w.onTables = true) w hw) (hts0 w ((by decide +kernel : ∀ w ∈ xB, w ∈ lw_tbl) w hw))
  have hfl := flat_of_before _ hgv
  have hxz : xz (fun q : Nat => s.heap.size ≤ q) s s.heap := ⟨vx_Zqof (hts0 _ (by decide +kernel)) (hts0 _ (by decide +kernel)) (hfl _ (by decide +kernel)) (fun a h1 h2 => Nat.not_le.mpr h1 h2), vx_Zqof (hts0 _ (by decide +kernel)) (hts0 _ (by decide +kernel)) (hfl _ (by decide +kernel)) (fun a h1 h2 => Nat.not_le.mpr h1 h2)⟩
  have C : jc p s m #[Value.ref b] c code 7 RL wsL_law (fun q : Nat => s.heap.size ≤ q) := ⟨hx, hb, hml, hown, hts, hA⟩
  have K : jk (dC, dI) [] s := ⟨⟨hKc, fun k q h => by simp at h⟩, hnw⟩
  have hl := lv_entry ([.ref b]) (n := 7) (Nat.le_of_ble_eq_true rfl)
  rw [lg_entry_eq]
  have J : jw p l e room_1 s m #[Value.ref b] below meth c 7 (dC, dI) (fun q : Nat => s.heap.size ≤ q) 0 0 (lw_Z below #[Value.ref b] s) [] [(0, .ref b)] 0 [] := by
    refine j_new (pc := 0) (ci := 2) (fs := [.null, .null, .null, .null, .null, .null, .int 0, .int 0, .int 0, .int 0, .int 0]) C K inlX2 tyX2 tyX2_ok (by decide +kernel) (by decide +kernel) (by decide +kernel) rfl (by decide +kernel) (Nat.le_of_ble_eq_true rfl) (Nat.le_of_ble_eq_true rfl) dL_law_0 (fun qg => ?_)
    refine j_ws (ws' := [(qg, .inr (2, [.null, .null, .null, .null, .null, .null, .int 0, .int 0, .int 0, .int 0, .int 0]))]) rfl ?_
    refine j_dup (pc := 3) C dL_law_3 rfl ?_
    refine j_callI (pc := 4) (As := []) (rest := [.ref qg]) (wr := []) C K (ctX2_init l (dC, dI) qg) gL_law_X2_init rfl rfl rfl (by decide +kernel) (by decide +kernel) (by decide +kernel) rfl (by decide +kernel) ⟨Nat.le_of_ble_eq_true rfl, Nat.le_of_ble_eq_true rfl⟩ rfl rfl (Nat.le_of_ble_eq_true rfl) dL_law_4 ⟨Nat.le_of_ble_eq_true rfl, Nat.le_of_ble_eq_true rfl⟩ (fun u hu Kg => ?_)
    obtain ⟨a, k⟩ := u
    have hu : a 0 = qg := hu
    subst hu
    have Kg : jk (dC, dI) (gt k) s := Kg
    refine j_ws (ws' := gw a k (fun _ => 0) 0 (fun _ => 0) 0 (fun _ => 0) 0 (fun _ => 0) 0 (fun _ => 0) (fun _ => e00) 0 0 0 0 0) rfl ?_
    refine j_astore_n (pc := 7) (lv' := [(1, .ref (a 0)), (0, .ref b)]) C dL_law_7 rfl (by decide) rfl ?_
    refine j_new (pc := 8) (ci := 3) (fs := [.null, .int 0, .null, .int 0, .null, .int 0, .null, .int 0, .int 0, .null, .int 0, .int 0, .int 0, .int 0, .int 0, .null, .int 0]) C Kg inlX3 tyX3 tyX3_ok (by decide +kernel) (by decide +kernel) (by decide +kernel) rfl (by decide +kernel) (Nat.le_of_ble_eq_true rfl) (Nat.le_of_ble_eq_true rfl) dL_law_8 (fun qm => ?_)
    refine j_dup (pc := 11) C dL_law_11 rfl ?_
    refine j_callI (pc := 12) (As := []) (rest := [.ref qm]) (wr := gw a k (fun _ => 0) 0 (fun _ => 0) 0 (fun _ => 0) 0 (fun _ => 0) 0 (fun _ => 0) (fun _ => e00) 0 0 0 0 0) C Kg (ctX3_init l (dC, dI) qm) gL_law_X3_init rfl rfl rfl (by decide +kernel) (by decide +kernel) (by decide +kernel) rfl (by decide +kernel) ⟨Nat.le_of_ble_eq_true rfl, Nat.le_of_ble_eq_true rfl⟩ rfl rfl (Nat.le_of_ble_eq_true rfl) dL_law_12 ⟨Nat.le_of_ble_eq_true rfl, Nat.le_of_ble_eq_true rfl⟩ (fun u hu Km => ?_)
    obtain ⟨am, km⟩ := u
    have hu : am 0 = qm := hu
    subst hu
    have Km : jk (dC, dI) (gt k ++ mt km) s := Km
    refine j_astore_n (pc := 15) (lv' := [(2, .ref (am 0)), (1, .ref (a 0)), (0, .ref b)]) C dL_law_15 rfl (by decide) rfl ?_
    refine j_iconst (pc := 16) (v := 1) C dL_law_16 (by decide) ?_
    refine j_newa (pc := 17) (N := 1) (a0 := (1, .inr (.inl (fun _ => 0)))) C Km (by decide +kernel) (ty := .long) rfl (fun _ => rfl) (by decide) (by decide) (by decide) (Nat.le_of_ble_eq_true rfl) (Nat.le_of_ble_eq_true rfl) dL_law_17 (fun qo ko Ko => ?_)
    have Ko : jk (dC, dI) (ltt k km ko) s := Ko
    refine j_ws (ws' := lww a k am km qo ko (fun _ => 0) 0 (fun _ => 0) 0 (fun _ => 0) 0 (fun _ => 0) 0 (fun _ => 0) (fun _ => e00) 0 0 0 0 0 (fun _ => 0) (fun _ => 0) (fun _ => 0) (fun _ => 0) (fun _ => 0) me00 0 0 0 0 0 0 0 0 0 0 0 (fun _ => 0)) rfl ?_
    refine j_astore_n (pc := 19) (lv' := [(3, .ref qo), (2, .ref (am 0)), (1, .ref (a 0)), (0, .ref b)]) C dL_law_19 rfl (by decide) rfl ?_
    refine j_iconst (pc := 20) (v := 0) C dL_law_20 (by decide) ?_
    refine j_istore (pc := 21) (lv' := [(4, .int 0), (3, .ref qo), (2, .ref (am 0)), (1, .ref (a 0)), (0, .ref b)]) C dL_law_21 (by decide) rfl ?_
    refine j_widen (k := 30 + 0) (n := 33300 + 6 * 0) (Nat.le_of_ble_eq_true rfl) (Nat.le_of_ble_eq_true rfl) ?_
    exact j_lv [4, 3, 2, 1, 0] rfl (law_loop hlt hL C hr hlocks hX hbl hxw hxz S Si a k am km qo ko Ko (512 + 1) 0 _ _ _ _ _ _ _ _ _ _ _ _ _ _ _ _ _ _ _ _ _ _ _ _ _ _ _ _ _ _ _ _ (fun _ => 0) 0 (Nat.zero_le _) (by omega) rfl hI0)
  exact J s.heap [] _ (fun k q h => by simp at h) ⟨fun i j p q h => by simp at h, fun k q h => by simp at h⟩ va_S.rf hl
