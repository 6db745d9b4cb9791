theorem hdyL_poke : yL_poke.cls ≠ "java/lang/invoke/MethodHandle" ∧ yL_poke.cls ≠ "java/lang/invoke/VarHandle" ∧ (parseMethodDescriptor yL_poke.desc).map (fun d => d.parameters.length) = some 4 := by decide +kernel
theorem hdyL_peek : yL_peek.cls ≠ "java/lang/invoke/MethodHandle" ∧ yL_peek.cls ≠ "java/lang/invoke/VarHandle" ∧ (parseMethodDescriptor yL_peek.desc).map (fun d => d.parameters.length) = some 3 := by decide +kernel
theorem hdyL_read : yL_read.cls ≠ "java/lang/invoke/MethodHandle" ∧ yL_read.cls ≠ "java/lang/invoke/VarHandle" ∧ (parseMethodDescriptor yL_read.desc).map (fun d => d.parameters.length) = some 4 := by decide +kernel
theorem lawin {j L : Nat} (h6 : 6 * j + 6 ≤ L) (hL : L < 2 ^ 31) {k : Nat} {x : Int32} (hx : x = nI k) (hk : k < 6) : vp_in (nI (6 * j) + x) L := by
  rw [hx, nI_add]
  exact vp_in_nI (by omega) hL
theorem lawsix (j : Nat) : nI (6 * j) + 6 = nI (6 * (j + 1)) := by
  rw [show (6 : Int32) = nI 6 from rfl, nI_add]
  congr 1
set_option maxHeartbeats 4000000 in
set_option maxRecDepth 100000 in
theorem lawc_poke {p : Program} {l : Launch} (hlt : l.stackTraces = false) {e : Env} {s : State} {m : MethodId} {below : List Frame} {meth : Method} {c : Code} {D : va_G} {b L : Nat} {xs : Nat → Int32} (hL : L ≤ 3072) (C : jc p s m #[Value.ref b] c code 7 RL wsL_law (fun q : Nat => s.heap.size ≤ q)) (hr : meth.sig.returnType = ret) (hlk : meth.locks = false) (hX : va_X b L xs s s.heap) (hbl : b < s.heap.size) (hxw : xw s) (hxz : xz (fun q : Nat => s.heap.size ≤ q) s s.heap) {I : Nat → GS → MS → Prop} (S_poke : sm_poke I 512) (a : Nat → Nat) (k : Nat → ClassId) (am : Nat → Nat) (km : Nat → ClassId) (qo : Nat) (ko : ClassId) (K : jk D (ltt k km ko) s) (j : Nat) (hjL : j < 512) (hj6 : 6 * j + 6 ≤ L) (v4 : Int32) (hv : v4 = nI (6 * j)) (gM : Nat → Int32) (gnC : Int32) (gbC : Nat → Int32) (gnL : Int32) (gbL : Nat → Int32) (gnF : Int32) (gbF : Nat → Int32) (gnQ : Int32) (gbQ : Nat → Int32) (gE : Nat → Nat → Int32) (gtp : Int32) (glf : Int32) (gtr : Int32) (glh : Int32) (gov : Int32) (mW : Nat → Int32) (mC : Nat → Int32) (mL : Nat → Int32) (mR : Nat → Int32) (mQ : Nat → Int32) (mE : Nat → Int32) (mtb : Int32) (mnC : Int32) (mnL : Int32) (mnR : Int32) (mov : Int32) (mnQ : Int32) (mwr : Int32) (mwl : Int32) (mft : Int32) (mth : Int32) (mpl : Int32) (out : Nat → Int64) (hI : I j (gM, gnC, gbC, gnL, gbL, gnF, gbF, gnQ, gbQ, gE, gtp, glf, gtr, glh, gov) (mW, mC, mL, mR, mQ, mE, mtb, mnC, mnL, mnR, mov, mnQ, mwr, mwl, mft, mth, mpl))
    (ih : ∀ (j2 : Nat) (gM : Nat → Int32) (gnC : Int32) (gbC : Nat → Int32) (gnL : Int32) (gbL : Nat → Int32) (gnF : Int32) (gbF : Nat → Int32) (gnQ : Int32) (gbQ : Nat → Int32) (gE : Nat → Nat → Int32) (gtp : Int32) (glf : Int32) (gtr : Int32) (glh : Int32) (gov : Int32) (mW : Nat → Int32) (mC : Nat → Int32) (mL : Nat → Int32) (mR : Nat → Int32) (mQ : Nat → Int32) (mE : Nat → Int32) (mtb : Int32) (mnC : Int32) (mnL : Int32) (mnR : Int32) (mov : Int32) (mnQ : Int32) (mwr : Int32) (mwl : Int32) (mft : Int32) (mth : Int32) (mpl : Int32) (out : Nat → Int64) (v4 : Int32), j2 = j + 1 → v4 = nI (6 * j2) → I j2 (gM, gnC, gbC, gnL, gbL, gnF, gbF, gnQ, gbQ, gE, gtp, glf, gtr, glh, gov) (mW, mC, mL, mR, mQ, mE, mtb, mnC, mnL, mnR, mov, mnQ, mwr, mwl, mft, mth, mpl) → jw p l e room_1 s m #[Value.ref b] below meth c 7 D (fun q : Nat => s.heap.size ≤ q) (30 + j2) (33300 + 6 * j2) (lw_Z below #[Value.ref b] s) (lww a k am km qo ko gM gnC gbC gnL gbL gnF gbF gnQ gbQ gE gtp glf gtr glh gov mW mC mL mR mQ mE mtb mnC mnL mnR mov mnQ mwr mwl mft mth mpl out) [(0, .ref b), (1, .ref (a 0)), (2, .ref (am 0)), (3, .ref qo), (4, .int v4)] 23 []) :
    jw p l e room_1 s m #[Value.ref b] below meth c 7 D (fun q : Nat => s.heap.size ≤ q) (30 + j) (33300 + 6 * j) (lw_Z below #[Value.ref b] s) (lww a k am km qo ko gM gnC gbC gnL gbL gnF gbF gnQ gbQ gE gtp glf gtr glh gov mW mC mL mR mQ mE mtb mnC mnL mnR mov mnQ mwr mwl mft mth mpl out) [(0, .ref b), (1, .ref (a 0)), (2, .ref (am 0)), (3, .ref qo), (4, .int v4)] 140 [] := by
  have hbA : ¬ (fun q : Nat => s.heap.size ≤ q) b := Nat.not_le.mpr hbl
  have hv1 : vp_in (v4 + 1) L := by rw [hv]; exact lawin hj6 (by omega) (k := 1) rfl (by omega)
  have hv2 : vp_in (v4 + 2) L := by rw [hv]; exact lawin hj6 (by omega) (k := 2) rfl (by omega)
  have hv3 : vp_in (v4 + 3) L := by rw [hv]; exact lawin hj6 (by omega) (k := 3) rfl (by omega)
  have hv4 : vp_in (v4 + 4) L := by rw [hv]; exact lawin hj6 (by omega) (k := 4) rfl (by omega)
  have hv5 : vp_in (v4 + 5) L := by rw [hv]; exact lawin hj6 (by omega) (k := 5) rfl (by omega)
  have hv6 : v4 + 6 = nI (6 * (j + 1)) := by rw [hv]; exact lawsix j
  refine j_aload_n (pc := 140) C 1 dL_law_140 rfl rfl ?_
  refine j_aload_n (pc := 141) C 0 dL_law_141 rfl rfl ?_
  refine j_iload (pc := 142) C 4 dL_law_142 rfl ?_
  refine j_iconst (pc := 144) (v := 1) C dL_law_144 (by decide) ?_
  refine j_iadd (pc := 145) C dL_law_145 ?_
  refine j_sld (pc := 146) C hX hbl hbA hv1 dL_law_146 ?_
  refine j_aload_n (pc := 147) C 0 dL_law_147 rfl rfl ?_
  refine j_iload (pc := 148) C 4 dL_law_148 rfl ?_
  refine j_iconst (pc := 150) (v := 2) C dL_law_150 (by decide) ?_
  refine j_iadd (pc := 151) C dL_law_151 ?_
  refine j_sld (pc := 152) C hX hbl hbA hv2 dL_law_152 ?_
  refine j_aload_n (pc := 153) C 3 dL_law_153 rfl rfl ?_
  rcases S_poke j _ _ _ _ _ _ _ _ _ _ _ _ _ _ _ _ _ _ _ _ _ _ _ _ _ _ _ _ _ _ _ _ (xs (v4 + 1).toNatClampNeg) (xs (v4 + 2).toNatClampNeg) hjL hI with ⟨rw1, rmw1, w1gM, w1mW, w1mth, hw1, hmw1, hIw1⟩ | ⟨rmw1, w1mW, w1mth, hw1, hmw1, hIw1⟩
  · refine j_callSM (pc := 154) (As := [.ref (a 0), .int (xs (v4 + 1).toNatClampNeg), .int (xs (v4 + 2).toNatClampNeg), .ref qo]) (rest := []) (ws' := (lww a k am km qo ko w1gM gnC gbC gnL gbL gnF gbF gnQ gbQ gE gtp glf gtr glh gov mW mC mL mR mQ mE mtb mnC mnL mnR mov mnQ mwr mwl mft mth mpl (vp_updL out (0 : Int32).toNatClampNeg rw1.toInt64))) C K hxw hxz (ctL_poke_ret l D a k _ _ _ _ _ _ _ _ _ _ _ _ _ _ _ qo ko out _ _ _ _ hw1) gL_law_L_poke rfl rfl rfl hdyL_poke ⟨Nat.le_of_ble_eq_true rfl, Nat.le_of_ble_eq_true rfl⟩ (List.range 19 ++ (List.range 1).map (fun i => (19 + 7) + i)) rfl (by decide) (jspH rfl rfl rfl rfl rfl) [0, 1, 2, 3, 4, 5, 12] rfl rfl (Nat.le_of_ble_eq_true rfl) dL_law_154 ⟨by show 30 + j + 1 ≤ 601024; omega, by show 33300 + 6 * j + 6 ≤ 7293033; omega⟩ ?_
    refine j_istore (pc := 157) (lv' := [(5, .int 0), (0, .ref b), (1, .ref (a 0)), (2, .ref (am 0)), (3, .ref qo), (4, .int v4)]) C dL_law_157 (by decide) rfl ?_
    refine j_aload_n (pc := 159) C 3 dL_law_159 rfl rfl ?_
    refine j_aload_n (pc := 160) C 1 dL_law_160 rfl rfl ?_
    refine j_iload (pc := 161) C 5 dL_law_161 rfl ?_
    refine j_iconst (pc := 163) (v := 1) C dL_law_163 (by decide) ?_
    refine j_iadd (pc := 164) C dL_law_164 ?_
    refine j_sld (pc := 165) C hX hbl hbA hv1 dL_law_165 ?_
    refine j_aload_n (pc := 166) C 1 dL_law_166 rfl rfl ?_
    refine j_iload (pc := 167) C 5 dL_law_167 rfl ?_
    refine j_iconst (pc := 169) (v := 2) C dL_law_169 (by decide) ?_
    refine j_iadd (pc := 170) C dL_law_170 ?_
    refine j_sld (pc := 171) C hX hbl hbA hv2 dL_law_171 ?_
    refine j_callVi (pc := 172) (As := [.int (xs (v4 + 1).toNatClampNeg), .int (xs (v4 + 2).toNatClampNeg)]) (rest := []) (ws' := (lww a k am km qo ko w1gM gnC gbC gnL gbL gnF gbF gnQ gbQ gE gtp glf gtr glh gov w1mW mC mL mR mQ mE mtb mnC mnL mnR mov mnQ mwr mwl mft w1mth mpl (vp_updL out (0 : Int32).toNatClampNeg rw1.toInt64))) C K (ci := 3) (q0 := 0) rfl rfl rfl (ctX3_poke l D am km _ _ _ _ _ _ _ _ _ _ _ _ _ _ _ _ _ _ _ _ _ _ hmw1) gL_law_X3_poke rfl rfl rfl hdyX3_poke ⟨Nat.le_of_ble_eq_true rfl, Nat.le_of_ble_eq_true rfl⟩ ((List.range 7).map (fun i => 19 + i)) rfl (by decide) (jspB rfl rfl rfl) [6, 7, 8, 9, 10, 11] rfl rfl (Nat.le_of_ble_eq_true rfl) dL_law_172 ⟨by show 30 + j + 1 ≤ 601024; omega, by show 33300 + 6 * j + 6 ≤ 7293033; omega⟩ ?_
    refine j_istore (pc := 175) (lv' := [(6, .int rmw1), (5, .int 0), (0, .ref b), (1, .ref (a 0)), (2, .ref (am 0)), (3, .ref qo), (4, .int v4)]) C dL_law_175 (by decide) rfl ?_
    refine j_goto (pc := 177) (tgt := 946) C dL_law_177 (by decide) ?_
    refine j_iinc (pc := 946) (v := (v4 + 6)) (lv' := [(4, .int (v4 + 6)), (6, .int rmw1), (5, .int 0), (0, .ref b), (1, .ref (a 0)), (2, .ref (am 0)), (3, .ref qo)]) C 6 dL_law_946 rfl rfl (by decide) rfl ?_
    refine j_goto (pc := 949) (tgt := 23) C dL_law_949 (by decide) ?_
    refine j_widen (k := 30 + (j + 1)) (n := 33300 + 6 * (j + 1)) (by omega) (by omega) ?_
    exact j_lv [3, 4, 5, 6, 0] rfl (ih (j + 1) _ _ _ _ _ _ _ _ _ _ _ _ _ _ _ _ _ _ _ _ _ _ _ _ _ _ _ _ _ _ _ _ _ _ (by omega) hv6 hIw1)
  · refine j_callSM (pc := 154) (As := [.ref (a 0), .int (xs (v4 + 1).toNatClampNeg), .int (xs (v4 + 2).toNatClampNeg), .ref qo]) (rest := []) (ws' := (lww a k am km qo ko gM gnC gbC gnL gbL gnF gbF gnQ gbQ gE gtp glf gtr glh gov mW mC mL mR mQ mE mtb mnC mnL mnR mov mnQ mwr mwl mft mth mpl out)) C K hxw hxz (ctL_poke_thr l hlt D a k _ _ _ _ _ _ _ _ _ _ _ _ _ _ _ qo ko out _ _ hw1) gL_law_L_poke rfl rfl rfl hdyL_poke ⟨Nat.le_of_ble_eq_true rfl, Nat.le_of_ble_eq_true rfl⟩ (List.range 19 ++ (List.range 1).map (fun i => (19 + 7) + i)) rfl (by decide) (jspH rfl rfl rfl rfl rfl) [0, 1, 2, 3, 4, 5, 12] rfl rfl (Nat.le_of_ble_eq_true rfl) dL_law_154 ⟨by show 30 + j + 1 ≤ 601024; omega, by show 33300 + 6 * j + 6 ≤ 7293033; omega⟩ ?_
    refine j_istore (pc := 157) (lv' := [(5, .int 1), (0, .ref b), (1, .ref (a 0)), (2, .ref (am 0)), (3, .ref qo), (4, .int v4)]) C dL_law_157 (by decide) rfl ?_
    refine j_aload_n (pc := 159) C 3 dL_law_159 rfl rfl ?_
    refine j_aload_n (pc := 160) C 1 dL_law_160 rfl rfl ?_
    refine j_iload (pc := 161) C 5 dL_law_161 rfl ?_
    refine j_iconst (pc := 163) (v := 1) C dL_law_163 (by decide) ?_
    refine j_iadd (pc := 164) C dL_law_164 ?_
    refine j_sld (pc := 165) C hX hbl hbA hv1 dL_law_165 ?_
    refine j_aload_n (pc := 166) C 1 dL_law_166 rfl rfl ?_
    refine j_iload (pc := 167) C 5 dL_law_167 rfl ?_
    refine j_iconst (pc := 169) (v := 2) C dL_law_169 (by decide) ?_
    refine j_iadd (pc := 170) C dL_law_170 ?_
    refine j_sld (pc := 171) C hX hbl hbA hv2 dL_law_171 ?_
    refine j_callVi (pc := 172) (As := [.int (xs (v4 + 1).toNatClampNeg), .int (xs (v4 + 2).toNatClampNeg)]) (rest := []) (ws' := (lww a k am km qo ko gM gnC gbC gnL gbL gnF gbF gnQ gbQ gE gtp glf gtr glh gov w1mW mC mL mR mQ mE mtb mnC mnL mnR mov mnQ mwr mwl mft w1mth mpl out)) C K (ci := 3) (q0 := 0) rfl rfl rfl (ctX3_poke l D am km _ _ _ _ _ _ _ _ _ _ _ _ _ _ _ _ _ _ _ _ _ _ hmw1) gL_law_X3_poke rfl rfl rfl hdyX3_poke ⟨Nat.le_of_ble_eq_true rfl, Nat.le_of_ble_eq_true rfl⟩ ((List.range 7).map (fun i => 19 + i)) rfl (by decide) (jspB rfl rfl rfl) [6, 7, 8, 9, 10, 11] rfl rfl (Nat.le_of_ble_eq_true rfl) dL_law_172 ⟨by show 30 + j + 1 ≤ 601024; omega, by show 33300 + 6 * j + 6 ≤ 7293033; omega⟩ ?_
    refine j_istore (pc := 175) (lv' := [(6, .int rmw1), (5, .int 1), (0, .ref b), (1, .ref (a 0)), (2, .ref (am 0)), (3, .ref qo), (4, .int v4)]) C dL_law_175 (by decide) rfl ?_
    refine j_goto (pc := 177) (tgt := 946) C dL_law_177 (by decide) ?_
    refine j_iinc (pc := 946) (v := (v4 + 6)) (lv' := [(4, .int (v4 + 6)), (6, .int rmw1), (5, .int 1), (0, .ref b), (1, .ref (a 0)), (2, .ref (am 0)), (3, .ref qo)]) C 6 dL_law_946 rfl rfl (by decide) rfl ?_
    refine j_goto (pc := 949) (tgt := 23) C dL_law_949 (by decide) ?_
    refine j_widen (k := 30 + (j + 1)) (n := 33300 + 6 * (j + 1)) (by omega) (by omega) ?_
    exact j_lv [3, 4, 5, 6, 0] rfl (ih (j + 1) _ _ _ _ _ _ _ _ _ _ _ _ _ _ _ _ _ _ _ _ _ _ _ _ _ _ _ _ _ _ _ _ _ _ (by omega) hv6 hIw1)
set_option maxHeartbeats 4000000 in
set_option maxRecDepth 100000 in
theorem lawc_peek {p : Program} {l : Launch} (hlt : l.stackTraces = false) {e : Env} {s : State} {m : MethodId} {below : List Frame} {meth : Method} {c : Code} {D : va_G} {b L : Nat} {xs : Nat → Int32} (hL : L ≤ 3072) (C : jc p s m #[Value.ref b] c code 7 RL wsL_law (fun q : Nat => s.heap.size ≤ q)) (hr : meth.sig.returnType = ret) (hlk : meth.locks = false) (hX : va_X b L xs s s.heap) (hbl : b < s.heap.size) (hxw : xw s) (hxz : xz (fun q : Nat => s.heap.size ≤ q) s s.heap) {I : Nat → GS → MS → Prop} (S_peek : sm_peek I 512) (a : Nat → Nat) (k : Nat → ClassId) (am : Nat → Nat) (km : Nat → ClassId) (qo : Nat) (ko : ClassId) (K : jk D (ltt k km ko) s) (j : Nat) (hjL : j < 512) (hj6 : 6 * j + 6 ≤ L) (v4 : Int32) (hv : v4 = nI (6 * j)) (gM : Nat → Int32) (gnC : Int32) (gbC : Nat → Int32) (gnL : Int32) (gbL : Nat → Int32) (gnF : Int32) (gbF : Nat → Int32) (gnQ : Int32) (gbQ : Nat → Int32) (gE : Nat → Nat → Int32) (gtp : Int32) (glf : Int32) (gtr : Int32) (glh : Int32) (gov : Int32) (mW : Nat → Int32) (mC : Nat → Int32) (mL : Nat → Int32) (mR : Nat → Int32) (mQ : Nat → Int32) (mE : Nat → Int32) (mtb : Int32) (mnC : Int32) (mnL : Int32) (mnR : Int32) (mov : Int32) (mnQ : Int32) (mwr : Int32) (mwl : Int32) (mft : Int32) (mth : Int32) (mpl : Int32) (out : Nat → Int64) (hI : I j (gM, gnC, gbC, gnL, gbL, gnF, gbF, gnQ, gbQ, gE, gtp, glf, gtr, glh, gov) (mW, mC, mL, mR, mQ, mE, mtb, mnC, mnL, mnR, mov, mnQ, mwr, mwl, mft, mth, mpl))
    (ih : ∀ (j2 : Nat) (gM : Nat → Int32) (gnC : Int32) (gbC : Nat → Int32) (gnL : Int32) (gbL : Nat → Int32) (gnF : Int32) (gbF : Nat → Int32) (gnQ : Int32) (gbQ : Nat → Int32) (gE : Nat → Nat → Int32) (gtp : Int32) (glf : Int32) (gtr : Int32) (glh : Int32) (gov : Int32) (mW : Nat → Int32) (mC : Nat → Int32) (mL : Nat → Int32) (mR : Nat → Int32) (mQ : Nat → Int32) (mE : Nat → Int32) (mtb : Int32) (mnC : Int32) (mnL : Int32) (mnR : Int32) (mov : Int32) (mnQ : Int32) (mwr : Int32) (mwl : Int32) (mft : Int32) (mth : Int32) (mpl : Int32) (out : Nat → Int64) (v4 : Int32), j2 = j + 1 → v4 = nI (6 * j2) → I j2 (gM, gnC, gbC, gnL, gbL, gnF, gbF, gnQ, gbQ, gE, gtp, glf, gtr, glh, gov) (mW, mC, mL, mR, mQ, mE, mtb, mnC, mnL, mnR, mov, mnQ, mwr, mwl, mft, mth, mpl) → jw p l e room_1 s m #[Value.ref b] below meth c 7 D (fun q : Nat => s.heap.size ≤ q) (30 + j2) (33300 + 6 * j2) (lw_Z below #[Value.ref b] s) (lww a k am km qo ko gM gnC gbC gnL gbL gnF gbF gnQ gbQ gE gtp glf gtr glh gov mW mC mL mR mQ mE mtb mnC mnL mnR mov mnQ mwr mwl mft mth mpl out) [(0, .ref b), (1, .ref (a 0)), (2, .ref (am 0)), (3, .ref qo), (4, .int v4)] 23 []) :
    jw p l e room_1 s m #[Value.ref b] below meth c 7 D (fun q : Nat => s.heap.size ≤ q) (30 + j) (33300 + 6 * j) (lw_Z below #[Value.ref b] s) (lww a k am km qo ko gM gnC gbC gnL gbL gnF gbF gnQ gbQ gE gtp glf gtr glh gov mW mC mL mR mQ mE mtb mnC mnL mnR mov mnQ mwr mwl mft mth mpl out) [(0, .ref b), (1, .ref (a 0)), (2, .ref (am 0)), (3, .ref qo), (4, .int v4)] 180 [] := by
  have hbA : ¬ (fun q : Nat => s.heap.size ≤ q) b := Nat.not_le.mpr hbl
  have hv1 : vp_in (v4 + 1) L := by rw [hv]; exact lawin hj6 (by omega) (k := 1) rfl (by omega)
  have hv2 : vp_in (v4 + 2) L := by rw [hv]; exact lawin hj6 (by omega) (k := 2) rfl (by omega)
  have hv3 : vp_in (v4 + 3) L := by rw [hv]; exact lawin hj6 (by omega) (k := 3) rfl (by omega)
  have hv4 : vp_in (v4 + 4) L := by rw [hv]; exact lawin hj6 (by omega) (k := 4) rfl (by omega)
  have hv5 : vp_in (v4 + 5) L := by rw [hv]; exact lawin hj6 (by omega) (k := 5) rfl (by omega)
  have hv6 : v4 + 6 = nI (6 * (j + 1)) := by rw [hv]; exact lawsix j
  refine j_aload_n (pc := 180) C 1 dL_law_180 rfl rfl ?_
  refine j_aload_n (pc := 181) C 0 dL_law_181 rfl rfl ?_
  refine j_iload (pc := 182) C 4 dL_law_182 rfl ?_
  refine j_iconst (pc := 184) (v := 1) C dL_law_184 (by decide) ?_
  refine j_iadd (pc := 185) C dL_law_185 ?_
  refine j_sld (pc := 186) C hX hbl hbA hv1 dL_law_186 ?_
  refine j_aload_n (pc := 187) C 3 dL_law_187 rfl rfl ?_
  rcases S_peek j _ _ _ _ _ _ _ _ _ _ _ _ _ _ _ _ _ _ _ _ _ _ _ _ _ _ _ _ _ _ _ _ (xs (v4 + 1).toNatClampNeg) hjL hI with ⟨rw1, rmw1, w1mth, hw1, hmw1, hIw1⟩ | ⟨rmw1, w1mth, hw1, hmw1, hIw1⟩
  · refine j_callSM (pc := 188) (As := [.ref (a 0), .int (xs (v4 + 1).toNatClampNeg), .ref qo]) (rest := []) (ws' := (lww a k am km qo ko gM gnC gbC gnL gbL gnF gbF gnQ gbQ gE gtp glf gtr glh gov mW mC mL mR mQ mE mtb mnC mnL mnR mov mnQ mwr mwl mft mth mpl (vp_updL out (0 : Int32).toNatClampNeg rw1.toInt64))) C K hxw hxz (ctL_peek_ret l D a k _ _ _ _ _ _ _ _ _ _ _ _ _ _ _ qo ko out _ _ hw1) gL_law_L_peek rfl rfl rfl hdyL_peek ⟨Nat.le_of_ble_eq_true rfl, Nat.le_of_ble_eq_true rfl⟩ (List.range 19 ++ (List.range 1).map (fun i => (19 + 7) + i)) rfl (by decide) (jspH rfl rfl rfl rfl rfl) [0, 1, 2, 3, 4, 5, 12] rfl rfl (Nat.le_of_ble_eq_true rfl) dL_law_188 ⟨by show 30 + j + 1 ≤ 601024; omega, by show 33300 + 6 * j + 6 ≤ 7293033; omega⟩ ?_
    refine j_istore (pc := 191) (lv' := [(5, .int 0), (0, .ref b), (1, .ref (a 0)), (2, .ref (am 0)), (3, .ref qo), (4, .int v4)]) C dL_law_191 (by decide) rfl ?_
    refine j_aload_n (pc := 193) C 3 dL_law_193 rfl rfl ?_
    refine j_aload_n (pc := 194) C 1 dL_law_194 rfl rfl ?_
    refine j_iload (pc := 195) C 5 dL_law_195 rfl ?_
    refine j_iconst (pc := 197) (v := 1) C dL_law_197 (by decide) ?_
    refine j_iadd (pc := 198) C dL_law_198 ?_
    refine j_sld (pc := 199) C hX hbl hbA hv1 dL_law_199 ?_
    refine j_callVi (pc := 200) (As := [.int (xs (v4 + 1).toNatClampNeg)]) (rest := []) (ws' := (lww a k am km qo ko gM gnC gbC gnL gbL gnF gbF gnQ gbQ gE gtp glf gtr glh gov mW mC mL mR mQ mE mtb mnC mnL mnR mov mnQ mwr mwl mft w1mth mpl (vp_updL out (0 : Int32).toNatClampNeg rw1.toInt64))) C K (ci := 3) (q0 := 0) rfl rfl rfl (ctX3_peek l D am km _ _ _ _ _ _ _ _ _ _ _ _ _ _ _ _ _ _ _ _ hmw1) gL_law_X3_peek rfl rfl rfl hdyX3_peek ⟨Nat.le_of_ble_eq_true rfl, Nat.le_of_ble_eq_true rfl⟩ ((List.range 7).map (fun i => 19 + i)) rfl (by decide) (jspB rfl rfl rfl) [6, 7, 8, 9, 10, 11] rfl rfl (Nat.le_of_ble_eq_true rfl) dL_law_200 ⟨by show 30 + j + 1 ≤ 601024; omega, by show 33300 + 6 * j + 6 ≤ 7293033; omega⟩ ?_
    refine j_istore (pc := 203) (lv' := [(6, .int rmw1), (5, .int 0), (0, .ref b), (1, .ref (a 0)), (2, .ref (am 0)), (3, .ref qo), (4, .int v4)]) C dL_law_203 (by decide) rfl ?_
    refine j_goto (pc := 205) (tgt := 946) C dL_law_205 (by decide) ?_
    refine j_iinc (pc := 946) (v := (v4 + 6)) (lv' := [(4, .int (v4 + 6)), (6, .int rmw1), (5, .int 0), (0, .ref b), (1, .ref (a 0)), (2, .ref (am 0)), (3, .ref qo)]) C 6 dL_law_946 rfl rfl (by decide) rfl ?_
    refine j_goto (pc := 949) (tgt := 23) C dL_law_949 (by decide) ?_
    refine j_widen (k := 30 + (j + 1)) (n := 33300 + 6 * (j + 1)) (by omega) (by omega) ?_
    exact j_lv [3, 4, 5, 6, 0] rfl (ih (j + 1) _ _ _ _ _ _ _ _ _ _ _ _ _ _ _ _ _ _ _ _ _ _ _ _ _ _ _ _ _ _ _ _ _ _ (by omega) hv6 hIw1)
  · refine j_callSM (pc := 188) (As := [.ref (a 0), .int (xs (v4 + 1).toNatClampNeg), .ref qo]) (rest := []) (ws' := (lww a k am km qo ko gM gnC gbC gnL gbL gnF gbF gnQ gbQ gE gtp glf gtr glh gov mW mC mL mR mQ mE mtb mnC mnL mnR mov mnQ mwr mwl mft mth mpl out)) C K hxw hxz (ctL_peek_thr l hlt D a k _ _ _ _ _ _ _ _ _ _ _ _ _ _ _ qo ko out _ hw1) gL_law_L_peek rfl rfl rfl hdyL_peek ⟨Nat.le_of_ble_eq_true rfl, Nat.le_of_ble_eq_true rfl⟩ (List.range 19 ++ (List.range 1).map (fun i => (19 + 7) + i)) rfl (by decide) (jspH rfl rfl rfl rfl rfl) [0, 1, 2, 3, 4, 5, 12] rfl rfl (Nat.le_of_ble_eq_true rfl) dL_law_188 ⟨by show 30 + j + 1 ≤ 601024; omega, by show 33300 + 6 * j + 6 ≤ 7293033; omega⟩ ?_
    refine j_istore (pc := 191) (lv' := [(5, .int 1), (0, .ref b), (1, .ref (a 0)), (2, .ref (am 0)), (3, .ref qo), (4, .int v4)]) C dL_law_191 (by decide) rfl ?_
    refine j_aload_n (pc := 193) C 3 dL_law_193 rfl rfl ?_
    refine j_aload_n (pc := 194) C 1 dL_law_194 rfl rfl ?_
    refine j_iload (pc := 195) C 5 dL_law_195 rfl ?_
    refine j_iconst (pc := 197) (v := 1) C dL_law_197 (by decide) ?_
    refine j_iadd (pc := 198) C dL_law_198 ?_
    refine j_sld (pc := 199) C hX hbl hbA hv1 dL_law_199 ?_
    refine j_callVi (pc := 200) (As := [.int (xs (v4 + 1).toNatClampNeg)]) (rest := []) (ws' := (lww a k am km qo ko gM gnC gbC gnL gbL gnF gbF gnQ gbQ gE gtp glf gtr glh gov mW mC mL mR mQ mE mtb mnC mnL mnR mov mnQ mwr mwl mft w1mth mpl out)) C K (ci := 3) (q0 := 0) rfl rfl rfl (ctX3_peek l D am km _ _ _ _ _ _ _ _ _ _ _ _ _ _ _ _ _ _ _ _ hmw1) gL_law_X3_peek rfl rfl rfl hdyX3_peek ⟨Nat.le_of_ble_eq_true rfl, Nat.le_of_ble_eq_true rfl⟩ ((List.range 7).map (fun i => 19 + i)) rfl (by decide) (jspB rfl rfl rfl) [6, 7, 8, 9, 10, 11] rfl rfl (Nat.le_of_ble_eq_true rfl) dL_law_200 ⟨by show 30 + j + 1 ≤ 601024; omega, by show 33300 + 6 * j + 6 ≤ 7293033; omega⟩ ?_
    refine j_istore (pc := 203) (lv' := [(6, .int rmw1), (5, .int 1), (0, .ref b), (1, .ref (a 0)), (2, .ref (am 0)), (3, .ref qo), (4, .int v4)]) C dL_law_203 (by decide) rfl ?_
    refine j_goto (pc := 205) (tgt := 946) C dL_law_205 (by decide) ?_
    refine j_iinc (pc := 946) (v := (v4 + 6)) (lv' := [(4, .int (v4 + 6)), (6, .int rmw1), (5, .int 1), (0, .ref b), (1, .ref (a 0)), (2, .ref (am 0)), (3, .ref qo)]) C 6 dL_law_946 rfl rfl (by decide) rfl ?_
    refine j_goto (pc := 949) (tgt := 23) C dL_law_949 (by decide) ?_
    refine j_widen (k := 30 + (j + 1)) (n := 33300 + 6 * (j + 1)) (by omega) (by omega) ?_
    exact j_lv [3, 4, 5, 6, 0] rfl (ih (j + 1) _ _ _ _ _ _ _ _ _ _ _ _ _ _ _ _ _ _ _ _ _ _ _ _ _ _ _ _ _ _ _ _ _ _ (by omega) hv6 hIw1)
set_option maxHeartbeats 4000000 in
set_option maxRecDepth 100000 in
theorem lawc_fill {p : Program} {l : Launch} (hlt : l.stackTraces = false) {e : Env} {s : State} {m : MethodId} {below : List Frame} {meth : Method} {c : Code} {D : va_G} {b L : Nat} {xs : Nat → Int32} (hL : L ≤ 3072) (C : jc p s m #[Value.ref b] c code 7 RL wsL_law (fun q : Nat => s.heap.size ≤ q)) (hr : meth.sig.returnType = ret) (hlk : meth.locks = false) (hX : va_X b L xs s s.heap) (hbl : b < s.heap.size) (hxw : xw s) (hxz : xz (fun q : Nat => s.heap.size ≤ q) s s.heap) {I : Nat → GS → MS → Prop} (S_fill : sm_fill I 512) (a : Nat → Nat) (k : Nat → ClassId) (am : Nat → Nat) (km : Nat → ClassId) (qo : Nat) (ko : ClassId) (K : jk D (ltt k km ko) s) (j : Nat) (hjL : j < 512) (hj6 : 6 * j + 6 ≤ L) (v4 : Int32) (hv : v4 = nI (6 * j)) (gM : Nat → Int32) (gnC : Int32) (gbC : Nat → Int32) (gnL : Int32) (gbL : Nat → Int32) (gnF : Int32) (gbF : Nat → Int32) (gnQ : Int32) (gbQ : Nat → Int32) (gE : Nat → Nat → Int32) (gtp : Int32) (glf : Int32) (gtr : Int32) (glh : Int32) (gov : Int32) (mW : Nat → Int32) (mC : Nat → Int32) (mL : Nat → Int32) (mR : Nat → Int32) (mQ : Nat → Int32) (mE : Nat → Int32) (mtb : Int32) (mnC : Int32) (mnL : Int32) (mnR : Int32) (mov : Int32) (mnQ : Int32) (mwr : Int32) (mwl : Int32) (mft : Int32) (mth : Int32) (mpl : Int32) (out : Nat → Int64) (hI : I j (gM, gnC, gbC, gnL, gbL, gnF, gbF, gnQ, gbQ, gE, gtp, glf, gtr, glh, gov) (mW, mC, mL, mR, mQ, mE, mtb, mnC, mnL, mnR, mov, mnQ, mwr, mwl, mft, mth, mpl))
    (ih : ∀ (j2 : Nat) (gM : Nat → Int32) (gnC : Int32) (gbC : Nat → Int32) (gnL : Int32) (gbL : Nat → Int32) (gnF : Int32) (gbF : Nat → Int32) (gnQ : Int32) (gbQ : Nat → Int32) (gE : Nat → Nat → Int32) (gtp : Int32) (glf : Int32) (gtr : Int32) (glh : Int32) (gov : Int32) (mW : Nat → Int32) (mC : Nat → Int32) (mL : Nat → Int32) (mR : Nat → Int32) (mQ : Nat → Int32) (mE : Nat → Int32) (mtb : Int32) (mnC : Int32) (mnL : Int32) (mnR : Int32) (mov : Int32) (mnQ : Int32) (mwr : Int32) (mwl : Int32) (mft : Int32) (mth : Int32) (mpl : Int32) (out : Nat → Int64) (v4 : Int32), j2 = j + 1 → v4 = nI (6 * j2) → I j2 (gM, gnC, gbC, gnL, gbL, gnF, gbF, gnQ, gbQ, gE, gtp, glf, gtr, glh, gov) (mW, mC, mL, mR, mQ, mE, mtb, mnC, mnL, mnR, mov, mnQ, mwr, mwl, mft, mth, mpl) → jw p l e room_1 s m #[Value.ref b] below meth c 7 D (fun q : Nat => s.heap.size ≤ q) (30 + j2) (33300 + 6 * j2) (lw_Z below #[Value.ref b] s) (lww a k am km qo ko gM gnC gbC gnL gbL gnF gbF gnQ gbQ gE gtp glf gtr glh gov mW mC mL mR mQ mE mtb mnC mnL mnR mov mnQ mwr mwl mft mth mpl out) [(0, .ref b), (1, .ref (a 0)), (2, .ref (am 0)), (3, .ref qo), (4, .int v4)] 23 []) :
    jw p l e room_1 s m #[Value.ref b] below meth c 7 D (fun q : Nat => s.heap.size ≤ q) (30 + j) (33300 + 6 * j) (lw_Z below #[Value.ref b] s) (lww a k am km qo ko gM gnC gbC gnL gbL gnF gbF gnQ gbQ gE gtp glf gtr glh gov mW mC mL mR mQ mE mtb mnC mnL mnR mov mnQ mwr mwl mft mth mpl out) [(0, .ref b), (1, .ref (a 0)), (2, .ref (am 0)), (3, .ref qo), (4, .int v4)] 208 [] := by
  have hbA : ¬ (fun q : Nat => s.heap.size ≤ q) b := Nat.not_le.mpr hbl
  have hv1 : vp_in (v4 + 1) L := by rw [hv]; exact lawin hj6 (by omega) (k := 1) rfl (by omega)
  have hv2 : vp_in (v4 + 2) L := by rw [hv]; exact lawin hj6 (by omega) (k := 2) rfl (by omega)
  have hv3 : vp_in (v4 + 3) L := by rw [hv]; exact lawin hj6 (by omega) (k := 3) rfl (by omega)
  have hv4 : vp_in (v4 + 4) L := by rw [hv]; exact lawin hj6 (by omega) (k := 4) rfl (by omega)
  have hv5 : vp_in (v4 + 5) L := by rw [hv]; exact lawin hj6 (by omega) (k := 5) rfl (by omega)
  have hv6 : v4 + 6 = nI (6 * (j + 1)) := by rw [hv]; exact lawsix j
  refine j_aload_n (pc := 208) C 1 dL_law_208 rfl rfl ?_
  refine j_aload_n (pc := 209) C 0 dL_law_209 rfl rfl ?_
  refine j_iload (pc := 210) C 4 dL_law_210 rfl ?_
  refine j_iconst (pc := 212) (v := 1) C dL_law_212 (by decide) ?_
  refine j_iadd (pc := 213) C dL_law_213 ?_
  refine j_sld (pc := 214) C hX hbl hbA hv1 dL_law_214 ?_
  refine j_aload_n (pc := 215) C 0 dL_law_215 rfl rfl ?_
  refine j_iload (pc := 216) C 4 dL_law_216 rfl ?_
  refine j_iconst (pc := 218) (v := 2) C dL_law_218 (by decide) ?_
  refine j_iadd (pc := 219) C dL_law_219 ?_
  refine j_sld (pc := 220) C hX hbl hbA hv2 dL_law_220 ?_
  refine j_aload_n (pc := 221) C 0 dL_law_221 rfl rfl ?_
  refine j_iload (pc := 222) C 4 dL_law_222 rfl ?_
  refine j_iconst (pc := 224) (v := 3) C dL_law_224 (by decide) ?_
  refine j_iadd (pc := 225) C dL_law_225 ?_
  refine j_sld (pc := 226) C hX hbl hbA hv3 dL_law_226 ?_
  refine j_aload_n (pc := 227) C 0 dL_law_227 rfl rfl ?_
  refine j_iload (pc := 228) C 4 dL_law_228 rfl ?_
  refine j_iconst (pc := 230) (v := 4) C dL_law_230 (by decide) ?_
  refine j_iadd (pc := 231) C dL_law_231 ?_
  refine j_sld (pc := 232) C hX hbl hbA hv4 dL_law_232 ?_
  obtain ⟨rw1, rmw1, w1gM, w1mW, w1mth, hw1, hmw1, hIw1⟩ := S_fill j _ _ _ _ _ _ _ _ _ _ _ _ _ _ _ _ _ _ _ _ _ _ _ _ _ _ _ _ _ _ _ _ (xs (v4 + 1).toNatClampNeg) (xs (v4 + 2).toNatClampNeg) (xs (v4 + 3).toNatClampNeg) (xs (v4 + 4).toNatClampNeg) hjL hI
  refine j_callVi (pc := 233) (As := [.int (xs (v4 + 1).toNatClampNeg), .int (xs (v4 + 2).toNatClampNeg), .int (xs (v4 + 3).toNatClampNeg), .int (xs (v4 + 4).toNatClampNeg)]) (rest := []) (ws' := (lww a k am km qo ko w1gM gnC gbC gnL gbL gnF gbF gnQ gbQ gE gtp glf gtr glh gov mW mC mL mR mQ mE mtb mnC mnL mnR mov mnQ mwr mwl mft mth mpl out)) C K (ci := 2) (q0 := 0) rfl rfl rfl (ctX2_fill l D a k _ _ _ _ _ _ _ _ _ _ _ _ _ _ _ _ _ _ _ _ _ hw1) gL_law_X2_fill rfl rfl rfl hdyX2_fill ⟨Nat.le_of_ble_eq_true rfl, Nat.le_of_ble_eq_true rfl⟩ (List.range 19) rfl (by decide) (jspA rfl rfl) [0, 1, 2, 3, 4, 5] rfl rfl (Nat.le_of_ble_eq_true rfl) dL_law_233 ⟨by show 30 + j ≤ 601024; omega, by show 33300 + 6 * j ≤ 7293033; omega⟩ ?_
  refine j_pop (pc := 236) C dL_law_236 rfl ?_
  refine j_aload_n (pc := 237) C 2 dL_law_237 rfl rfl ?_
  refine j_aload_n (pc := 238) C 0 dL_law_238 rfl rfl ?_
  refine j_iload (pc := 239) C 4 dL_law_239 rfl ?_
  refine j_iconst (pc := 241) (v := 1) C dL_law_241 (by decide) ?_
  refine j_iadd (pc := 242) C dL_law_242 ?_
  refine j_sld (pc := 243) C hX hbl hbA hv1 dL_law_243 ?_
  refine j_aload_n (pc := 244) C 0 dL_law_244 rfl rfl ?_
  refine j_iload (pc := 245) C 4 dL_law_245 rfl ?_
  refine j_iconst (pc := 247) (v := 2) C dL_law_247 (by decide) ?_
  refine j_iadd (pc := 248) C dL_law_248 ?_
  refine j_sld (pc := 249) C hX hbl hbA hv2 dL_law_249 ?_
  refine j_aload_n (pc := 250) C 0 dL_law_250 rfl rfl ?_
  refine j_iload (pc := 251) C 4 dL_law_251 rfl ?_
  refine j_iconst (pc := 253) (v := 3) C dL_law_253 (by decide) ?_
  refine j_iadd (pc := 254) C dL_law_254 ?_
  refine j_sld (pc := 255) C hX hbl hbA hv3 dL_law_255 ?_
  refine j_aload_n (pc := 256) C 0 dL_law_256 rfl rfl ?_
  refine j_iload (pc := 257) C 4 dL_law_257 rfl ?_
  refine j_iconst (pc := 259) (v := 4) C dL_law_259 (by decide) ?_
  refine j_iadd (pc := 260) C dL_law_260 ?_
  refine j_sld (pc := 261) C hX hbl hbA hv4 dL_law_261 ?_
  refine j_callVi (pc := 262) (As := [.int (xs (v4 + 1).toNatClampNeg), .int (xs (v4 + 2).toNatClampNeg), .int (xs (v4 + 3).toNatClampNeg), .int (xs (v4 + 4).toNatClampNeg)]) (rest := []) (ws' := (lww a k am km qo ko w1gM gnC gbC gnL gbL gnF gbF gnQ gbQ gE gtp glf gtr glh gov w1mW mC mL mR mQ mE mtb mnC mnL mnR mov mnQ mwr mwl mft w1mth mpl out)) C K (ci := 3) (q0 := 0) rfl rfl rfl (ctX3_fill l D am km _ _ _ _ _ _ _ _ _ _ _ _ _ _ _ _ _ _ _ _ _ _ _ _ hmw1) gL_law_X3_fill rfl rfl rfl hdyX3_fill ⟨Nat.le_of_ble_eq_true rfl, Nat.le_of_ble_eq_true rfl⟩ ((List.range 7).map (fun i => 19 + i)) rfl (by decide) (jspB rfl rfl rfl) [6, 7, 8, 9, 10, 11] rfl rfl (Nat.le_of_ble_eq_true rfl) dL_law_262 ⟨by show 30 + j ≤ 601024; omega, by show 33300 + 6 * j ≤ 7293033; omega⟩ ?_
  refine j_pop (pc := 265) C dL_law_265 rfl ?_
  refine j_goto (pc := 266) (tgt := 946) C dL_law_266 (by decide) ?_
  refine j_iinc (pc := 946) (v := (v4 + 6)) (lv' := [(4, .int (v4 + 6)), (0, .ref b), (1, .ref (a 0)), (2, .ref (am 0)), (3, .ref qo)]) C 4 dL_law_946 rfl rfl (by decide) rfl ?_
  refine j_goto (pc := 949) (tgt := 23) C dL_law_949 (by decide) ?_
  refine j_widen (k := 30 + (j + 1)) (n := 33300 + 6 * (j + 1)) (by omega) (by omega) ?_
  exact j_lv [1, 2, 3, 4, 0] rfl (ih (j + 1) _ _ _ _ _ _ _ _ _ _ _ _ _ _ _ _ _ _ _ _ _ _ _ _ _ _ _ _ _ _ _ _ _ _ (by omega) hv6 hIw1)
set_option maxHeartbeats 4000000 in
set_option maxRecDepth 100000 in
theorem lawc_table {p : Program} {l : Launch} (hlt : l.stackTraces = false) {e : Env} {s : State} {m : MethodId} {below : List Frame} {meth : Method} {c : Code} {D : va_G} {b L : Nat} {xs : Nat → Int32} (hL : L ≤ 3072) (C : jc p s m #[Value.ref b] c code 7 RL wsL_law (fun q : Nat => s.heap.size ≤ q)) (hr : meth.sig.returnType = ret) (hlk : meth.locks = false) (hX : va_X b L xs s s.heap) (hbl : b < s.heap.size) (hxw : xw s) (hxz : xz (fun q : Nat => s.heap.size ≤ q) s s.heap) {I : Nat → GS → MS → Prop} (S_table : sm_table I 512) (a : Nat → Nat) (k : Nat → ClassId) (am : Nat → Nat) (km : Nat → ClassId) (qo : Nat) (ko : ClassId) (K : jk D (ltt k km ko) s) (j : Nat) (hjL : j < 512) (hj6 : 6 * j + 6 ≤ L) (v4 : Int32) (hv : v4 = nI (6 * j)) (gM : Nat → Int32) (gnC : Int32) (gbC : Nat → Int32) (gnL : Int32) (gbL : Nat → Int32) (gnF : Int32) (gbF : Nat → Int32) (gnQ : Int32) (gbQ : Nat → Int32) (gE : Nat → Nat → Int32) (gtp : Int32) (glf : Int32) (gtr : Int32) (glh : Int32) (gov : Int32) (mW : Nat → Int32) (mC : Nat → Int32) (mL : Nat → Int32) (mR : Nat → Int32) (mQ : Nat → Int32) (mE : Nat → Int32) (mtb : Int32) (mnC : Int32) (mnL : Int32) (mnR : Int32) (mov : Int32) (mnQ : Int32) (mwr : Int32) (mwl : Int32) (mft : Int32) (mth : Int32) (mpl : Int32) (out : Nat → Int64) (hI : I j (gM, gnC, gbC, gnL, gbL, gnF, gbF, gnQ, gbQ, gE, gtp, glf, gtr, glh, gov) (mW, mC, mL, mR, mQ, mE, mtb, mnC, mnL, mnR, mov, mnQ, mwr, mwl, mft, mth, mpl))
    (ih : ∀ (j2 : Nat) (gM : Nat → Int32) (gnC : Int32) (gbC : Nat → Int32) (gnL : Int32) (gbL : Nat → Int32) (gnF : Int32) (gbF : Nat → Int32) (gnQ : Int32) (gbQ : Nat → Int32) (gE : Nat → Nat → Int32) (gtp : Int32) (glf : Int32) (gtr : Int32) (glh : Int32) (gov : Int32) (mW : Nat → Int32) (mC : Nat → Int32) (mL : Nat → Int32) (mR : Nat → Int32) (mQ : Nat → Int32) (mE : Nat → Int32) (mtb : Int32) (mnC : Int32) (mnL : Int32) (mnR : Int32) (mov : Int32) (mnQ : Int32) (mwr : Int32) (mwl : Int32) (mft : Int32) (mth : Int32) (mpl : Int32) (out : Nat → Int64) (v4 : Int32), j2 = j + 1 → v4 = nI (6 * j2) → I j2 (gM, gnC, gbC, gnL, gbL, gnF, gbF, gnQ, gbQ, gE, gtp, glf, gtr, glh, gov) (mW, mC, mL, mR, mQ, mE, mtb, mnC, mnL, mnR, mov, mnQ, mwr, mwl, mft, mth, mpl) → jw p l e room_1 s m #[Value.ref b] below meth c 7 D (fun q : Nat => s.heap.size ≤ q) (30 + j2) (33300 + 6 * j2) (lw_Z below #[Value.ref b] s) (lww a k am km qo ko gM gnC gbC gnL gbL gnF gbF gnQ gbQ gE gtp glf gtr glh gov mW mC mL mR mQ mE mtb mnC mnL mnR mov mnQ mwr mwl mft mth mpl out) [(0, .ref b), (1, .ref (a 0)), (2, .ref (am 0)), (3, .ref qo), (4, .int v4)] 23 []) :
    jw p l e room_1 s m #[Value.ref b] below meth c 7 D (fun q : Nat => s.heap.size ≤ q) (30 + j) (33300 + 6 * j) (lw_Z below #[Value.ref b] s) (lww a k am km qo ko gM gnC gbC gnL gbL gnF gbF gnQ gbQ gE gtp glf gtr glh gov mW mC mL mR mQ mE mtb mnC mnL mnR mov mnQ mwr mwl mft mth mpl out) [(0, .ref b), (1, .ref (a 0)), (2, .ref (am 0)), (3, .ref qo), (4, .int v4)] 269 [] := by
  have hbA : ¬ (fun q : Nat => s.heap.size ≤ q) b := Nat.not_le.mpr hbl
  have hv1 : vp_in (v4 + 1) L := by rw [hv]; exact lawin hj6 (by omega) (k := 1) rfl (by omega)
  have hv2 : vp_in (v4 + 2) L := by rw [hv]; exact lawin hj6 (by omega) (k := 2) rfl (by omega)
  have hv3 : vp_in (v4 + 3) L := by rw [hv]; exact lawin hj6 (by omega) (k := 3) rfl (by omega)
  have hv4 : vp_in (v4 + 4) L := by rw [hv]; exact lawin hj6 (by omega) (k := 4) rfl (by omega)
  have hv5 : vp_in (v4 + 5) L := by rw [hv]; exact lawin hj6 (by omega) (k := 5) rfl (by omega)
  have hv6 : v4 + 6 = nI (6 * (j + 1)) := by rw [hv]; exact lawsix j
  refine j_aload_n (pc := 269) C 1 dL_law_269 rfl rfl ?_
  refine j_aload_n (pc := 270) C 0 dL_law_270 rfl rfl ?_
  refine j_iload (pc := 271) C 4 dL_law_271 rfl ?_
  refine j_iconst (pc := 273) (v := 1) C dL_law_273 (by decide) ?_
  refine j_iadd (pc := 274) C dL_law_274 ?_
  refine j_sld (pc := 275) C hX hbl hbA hv1 dL_law_275 ?_
  obtain ⟨rw1, rmw1, w1gtp, w1mtb, w1mth, hw1, hmw1, hIw1⟩ := S_table j _ _ _ _ _ _ _ _ _ _ _ _ _ _ _ _ _ _ _ _ _ _ _ _ _ _ _ _ _ _ _ _ (xs (v4 + 1).toNatClampNeg) hjL hI
  refine j_callVi (pc := 276) (As := [.int (xs (v4 + 1).toNatClampNeg)]) (rest := []) (ws' := (lww a k am km qo ko gM gnC gbC gnL gbL gnF gbF gnQ gbQ gE w1gtp glf gtr glh gov mW mC mL mR mQ mE mtb mnC mnL mnR mov mnQ mwr mwl mft mth mpl out)) C K (ci := 2) (q0 := 0) rfl rfl rfl (ctX2_table l D a k _ _ _ _ _ _ _ _ _ _ _ _ _ _ _ _ _ _ hw1) gL_law_X2_table rfl rfl rfl hdyX2_table ⟨Nat.le_of_ble_eq_true rfl, Nat.le_of_ble_eq_true rfl⟩ (List.range 19) rfl (by decide) (jspA rfl rfl) [0, 1, 2, 3, 4, 5] rfl rfl (Nat.le_of_ble_eq_true rfl) dL_law_276 ⟨by show 30 + j ≤ 601024; omega, by show 33300 + 6 * j ≤ 7293033; omega⟩ ?_
  refine j_pop (pc := 279) C dL_law_279 rfl ?_
  refine j_aload_n (pc := 280) C 2 dL_law_280 rfl rfl ?_
  refine j_aload_n (pc := 281) C 0 dL_law_281 rfl rfl ?_
  refine j_iload (pc := 282) C 4 dL_law_282 rfl ?_
  refine j_iconst (pc := 284) (v := 1) C dL_law_284 (by decide) ?_
  refine j_iadd (pc := 285) C dL_law_285 ?_
  refine j_sld (pc := 286) C hX hbl hbA hv1 dL_law_286 ?_
  refine j_callVi (pc := 287) (As := [.int (xs (v4 + 1).toNatClampNeg)]) (rest := []) (ws' := (lww a k am km qo ko gM gnC gbC gnL gbL gnF gbF gnQ gbQ gE w1gtp glf gtr glh gov mW mC mL mR mQ mE w1mtb mnC mnL mnR mov mnQ mwr mwl mft w1mth mpl out)) C K (ci := 3) (q0 := 0) rfl rfl rfl (ctX3_table l D am km _ _ _ _ _ _ _ _ _ _ _ _ _ _ _ _ _ _ _ _ _ hmw1) gL_law_X3_table rfl rfl rfl hdyX3_table ⟨Nat.le_of_ble_eq_true rfl, Nat.le_of_ble_eq_true rfl⟩ ((List.range 7).map (fun i => 19 + i)) rfl (by decide) (jspB rfl rfl rfl) [6, 7, 8, 9, 10, 11] rfl rfl (Nat.le_of_ble_eq_true rfl) dL_law_287 ⟨by show 30 + j ≤ 601024; omega, by show 33300 + 6 * j ≤ 7293033; omega⟩ ?_
  refine j_pop (pc := 290) C dL_law_290 rfl ?_
  refine j_goto (pc := 291) (tgt := 946) C dL_law_291 (by decide) ?_
  refine j_iinc (pc := 946) (v := (v4 + 6)) (lv' := [(4, .int (v4 + 6)), (0, .ref b), (1, .ref (a 0)), (2, .ref (am 0)), (3, .ref qo)]) C 4 dL_law_946 rfl rfl (by decide) rfl ?_
  refine j_goto (pc := 949) (tgt := 23) C dL_law_949 (by decide) ?_
  refine j_widen (k := 30 + (j + 1)) (n := 33300 + 6 * (j + 1)) (by omega) (by omega) ?_
  exact j_lv [1, 2, 3, 4, 0] rfl (ih (j + 1) _ _ _ _ _ _ _ _ _ _ _ _ _ _ _ _ _ _ _ _ _ _ _ _ _ _ _ _ _ _ _ _ _ _ (by omega) hv6 hIw1)
set_option maxHeartbeats 4000000 in
set_option maxRecDepth 100000 in
theorem lawc_context {p : Program} {l : Launch} (hlt : l.stackTraces = false) {e : Env} {s : State} {m : MethodId} {below : List Frame} {meth : Method} {c : Code} {D : va_G} {b L : Nat} {xs : Nat → Int32} (hL : L ≤ 3072) (C : jc p s m #[Value.ref b] c code 7 RL wsL_law (fun q : Nat => s.heap.size ≤ q)) (hr : meth.sig.returnType = ret) (hlk : meth.locks = false) (hX : va_X b L xs s s.heap) (hbl : b < s.heap.size) (hxw : xw s) (hxz : xz (fun q : Nat => s.heap.size ≤ q) s s.heap) {I : Nat → GS → MS → Prop} (S_context : sm_context I 512) (a : Nat → Nat) (k : Nat → ClassId) (am : Nat → Nat) (km : Nat → ClassId) (qo : Nat) (ko : ClassId) (K : jk D (ltt k km ko) s) (j : Nat) (hjL : j < 512) (hj6 : 6 * j + 6 ≤ L) (v4 : Int32) (hv : v4 = nI (6 * j)) (gM : Nat → Int32) (gnC : Int32) (gbC : Nat → Int32) (gnL : Int32) (gbL : Nat → Int32) (gnF : Int32) (gbF : Nat → Int32) (gnQ : Int32) (gbQ : Nat → Int32) (gE : Nat → Nat → Int32) (gtp : Int32) (glf : Int32) (gtr : Int32) (glh : Int32) (gov : Int32) (mW : Nat → Int32) (mC : Nat → Int32) (mL : Nat → Int32) (mR : Nat → Int32) (mQ : Nat → Int32) (mE : Nat → Int32) (mtb : Int32) (mnC : Int32) (mnL : Int32) (mnR : Int32) (mov : Int32) (mnQ : Int32) (mwr : Int32) (mwl : Int32) (mft : Int32) (mth : Int32) (mpl : Int32) (out : Nat → Int64) (hI : I j (gM, gnC, gbC, gnL, gbL, gnF, gbF, gnQ, gbQ, gE, gtp, glf, gtr, glh, gov) (mW, mC, mL, mR, mQ, mE, mtb, mnC, mnL, mnR, mov, mnQ, mwr, mwl, mft, mth, mpl))
    (ih : ∀ (j2 : Nat) (gM : Nat → Int32) (gnC : Int32) (gbC : Nat → Int32) (gnL : Int32) (gbL : Nat → Int32) (gnF : Int32) (gbF : Nat → Int32) (gnQ : Int32) (gbQ : Nat → Int32) (gE : Nat → Nat → Int32) (gtp : Int32) (glf : Int32) (gtr : Int32) (glh : Int32) (gov : Int32) (mW : Nat → Int32) (mC : Nat → Int32) (mL : Nat → Int32) (mR : Nat → Int32) (mQ : Nat → Int32) (mE : Nat → Int32) (mtb : Int32) (mnC : Int32) (mnL : Int32) (mnR : Int32) (mov : Int32) (mnQ : Int32) (mwr : Int32) (mwl : Int32) (mft : Int32) (mth : Int32) (mpl : Int32) (out : Nat → Int64) (v4 : Int32), j2 = j + 1 → v4 = nI (6 * j2) → I j2 (gM, gnC, gbC, gnL, gbL, gnF, gbF, gnQ, gbQ, gE, gtp, glf, gtr, glh, gov) (mW, mC, mL, mR, mQ, mE, mtb, mnC, mnL, mnR, mov, mnQ, mwr, mwl, mft, mth, mpl) → jw p l e room_1 s m #[Value.ref b] below meth c 7 D (fun q : Nat => s.heap.size ≤ q) (30 + j2) (33300 + 6 * j2) (lw_Z below #[Value.ref b] s) (lww a k am km qo ko gM gnC gbC gnL gbL gnF gbF gnQ gbQ gE gtp glf gtr glh gov mW mC mL mR mQ mE mtb mnC mnL mnR mov mnQ mwr mwl mft mth mpl out) [(0, .ref b), (1, .ref (a 0)), (2, .ref (am 0)), (3, .ref qo), (4, .int v4)] 23 []) :
    jw p l e room_1 s m #[Value.ref b] below meth c 7 D (fun q : Nat => s.heap.size ≤ q) (30 + j) (33300 + 6 * j) (lw_Z below #[Value.ref b] s) (lww a k am km qo ko gM gnC gbC gnL gbL gnF gbF gnQ gbQ gE gtp glf gtr glh gov mW mC mL mR mQ mE mtb mnC mnL mnR mov mnQ mwr mwl mft mth mpl out) [(0, .ref b), (1, .ref (a 0)), (2, .ref (am 0)), (3, .ref qo), (4, .int v4)] 294 [] := by
  have hbA : ¬ (fun q : Nat => s.heap.size ≤ q) b := Nat.not_le.mpr hbl
  have hv1 : vp_in (v4 + 1) L := by rw [hv]; exact lawin hj6 (by omega) (k := 1) rfl (by omega)
  have hv2 : vp_in (v4 + 2) L := by rw [hv]; exact lawin hj6 (by omega) (k := 2) rfl (by omega)
  have hv3 : vp_in (v4 + 3) L := by rw [hv]; exact lawin hj6 (by omega) (k := 3) rfl (by omega)
  have hv4 : vp_in (v4 + 4) L := by rw [hv]; exact lawin hj6 (by omega) (k := 4) rfl (by omega)
  have hv5 : vp_in (v4 + 5) L := by rw [hv]; exact lawin hj6 (by omega) (k := 5) rfl (by omega)
  have hv6 : v4 + 6 = nI (6 * (j + 1)) := by rw [hv]; exact lawsix j
  refine j_aload_n (pc := 294) C 1 dL_law_294 rfl rfl ?_
  refine j_aload_n (pc := 295) C 0 dL_law_295 rfl rfl ?_
  refine j_iload (pc := 296) C 4 dL_law_296 rfl ?_
  refine j_iconst (pc := 298) (v := 1) C dL_law_298 (by decide) ?_
  refine j_iadd (pc := 299) C dL_law_299 ?_
  refine j_sld (pc := 300) C hX hbl hbA hv1 dL_law_300 ?_
  refine j_aload_n (pc := 301) C 0 dL_law_301 rfl rfl ?_
  refine j_iload (pc := 302) C 4 dL_law_302 rfl ?_
  refine j_iconst (pc := 304) (v := 2) C dL_law_304 (by decide) ?_
  refine j_iadd (pc := 305) C dL_law_305 ?_
  refine j_sld (pc := 306) C hX hbl hbA hv2 dL_law_306 ?_
  refine j_if_eq (pc := 307) (tgt := 314) C dL_law_307 (by decide) (fun c1 => ?_) (fun c1 => ?_)
  · refine j_iconst (pc := 314) (v := 0) C dL_law_314 (by decide) ?_
    refine j_aload_n (pc := 315) C 0 dL_law_315 rfl rfl ?_
    refine j_iload (pc := 316) C 4 dL_law_316 rfl ?_
    refine j_iconst (pc := 318) (v := 3) C dL_law_318 (by decide) ?_
    refine j_iadd (pc := 319) C dL_law_319 ?_
    refine j_sld (pc := 320) C hX hbl hbA hv3 dL_law_320 ?_
    refine j_aload_n (pc := 321) C 0 dL_law_321 rfl rfl ?_
    refine j_iload (pc := 322) C 4 dL_law_322 rfl ?_
    refine j_iconst (pc := 324) (v := 4) C dL_law_324 (by decide) ?_
    refine j_iadd (pc := 325) C dL_law_325 ?_
    refine j_sld (pc := 326) C hX hbl hbA hv4 dL_law_326 ?_
    obtain ⟨rw2, rmw2, w2gM, w2mW, w2mth, hw2, hmw2, hIw2⟩ := S_context j _ _ _ _ _ _ _ _ _ _ _ _ _ _ _ _ _ _ _ _ _ _ _ _ _ _ _ _ _ _ _ _ (xs (v4 + 1).toNatClampNeg) 0 (xs (v4 + 3).toNatClampNeg) (xs (v4 + 4).toNatClampNeg) hjL hI
    refine j_callVi (pc := 327) (As := [.int (xs (v4 + 1).toNatClampNeg), .int 0, .int (xs (v4 + 3).toNatClampNeg), .int (xs (v4 + 4).toNatClampNeg)]) (rest := []) (ws' := (lww a k am km qo ko w2gM gnC gbC gnL gbL gnF gbF gnQ gbQ gE gtp glf gtr glh gov mW mC mL mR mQ mE mtb mnC mnL mnR mov mnQ mwr mwl mft mth mpl out)) C K (ci := 2) (q0 := 0) rfl rfl rfl (ctX2_context l D a k _ _ _ _ _ _ _ _ _ _ _ _ _ _ _ _ _ _ _ _ _ hw2) gL_law_X2_context rfl rfl rfl hdyX2_context ⟨Nat.le_of_ble_eq_true rfl, Nat.le_of_ble_eq_true rfl⟩ (List.range 19) rfl (by decide) (jspA rfl rfl) [0, 1, 2, 3, 4, 5] rfl rfl (Nat.le_of_ble_eq_true rfl) dL_law_327 ⟨by show 30 + j ≤ 601024; omega, by show 33300 + 6 * j ≤ 7293033; omega⟩ ?_
    refine j_pop (pc := 330) C dL_law_330 rfl ?_
    refine j_aload_n (pc := 331) C 2 dL_law_331 rfl rfl ?_
    refine j_aload_n (pc := 332) C 0 dL_law_332 rfl rfl ?_
    refine j_iload (pc := 333) C 4 dL_law_333 rfl ?_
    refine j_iconst (pc := 335) (v := 1) C dL_law_335 (by decide) ?_
    refine j_iadd (pc := 336) C dL_law_336 ?_
    refine j_sld (pc := 337) C hX hbl hbA hv1 dL_law_337 ?_
    refine j_aload_n (pc := 338) C 0 dL_law_338 rfl rfl ?_
    refine j_iload (pc := 339) C 4 dL_law_339 rfl ?_
    refine j_iconst (pc := 341) (v := 2) C dL_law_341 (by decide) ?_
    refine j_iadd (pc := 342) C dL_law_342 ?_
    refine j_sld (pc := 343) C hX hbl hbA hv2 dL_law_343 ?_
    refine j_if_eq (pc := 344) (tgt := 351) C dL_law_344 (by decide) (fun _ => ?_) (fun h => absurd c1 h)
    refine j_iconst (pc := 351) (v := 0) C dL_law_351 (by decide) ?_
    refine j_aload_n (pc := 352) C 0 dL_law_352 rfl rfl ?_
    refine j_iload (pc := 353) C 4 dL_law_353 rfl ?_
    refine j_iconst (pc := 355) (v := 3) C dL_law_355 (by decide) ?_
    refine j_iadd (pc := 356) C dL_law_356 ?_
    refine j_sld (pc := 357) C hX hbl hbA hv3 dL_law_357 ?_
    refine j_aload_n (pc := 358) C 0 dL_law_358 rfl rfl ?_
    refine j_iload (pc := 359) C 4 dL_law_359 rfl ?_
    refine j_iconst (pc := 361) (v := 4) C dL_law_361 (by decide) ?_
    refine j_iadd (pc := 362) C dL_law_362 ?_
    refine j_sld (pc := 363) C hX hbl hbA hv4 dL_law_363 ?_
    refine j_callVi (pc := 364) (As := [.int (xs (v4 + 1).toNatClampNeg), .int 0, .int (xs (v4 + 3).toNatClampNeg), .int (xs (v4 + 4).toNatClampNeg)]) (rest := []) (ws' := (lww a k am km qo ko w2gM gnC gbC gnL gbL gnF gbF gnQ gbQ gE gtp glf gtr glh gov w2mW mC mL mR mQ mE mtb mnC mnL mnR mov mnQ mwr mwl mft w2mth mpl out)) C K (ci := 3) (q0 := 0) rfl rfl rfl (ctX3_context l D am km _ _ _ _ _ _ _ _ _ _ _ _ _ _ _ _ _ _ _ _ _ _ _ _ hmw2) gL_law_X3_context rfl rfl rfl hdyX3_context ⟨Nat.le_of_ble_eq_true rfl, Nat.le_of_ble_eq_true rfl⟩ ((List.range 7).map (fun i => 19 + i)) rfl (by decide) (jspB rfl rfl rfl) [6, 7, 8, 9, 10, 11] rfl rfl (Nat.le_of_ble_eq_true rfl) dL_law_364 ⟨by show 30 + j ≤ 601024; omega, by show 33300 + 6 * j ≤ 7293033; omega⟩ ?_
    refine j_pop (pc := 367) C dL_law_367 rfl ?_
    refine j_goto (pc := 368) (tgt := 946) C dL_law_368 (by decide) ?_
    refine j_iinc (pc := 946) (v := (v4 + 6)) (lv' := [(4, .int (v4 + 6)), (0, .ref b), (1, .ref (a 0)), (2, .ref (am 0)), (3, .ref qo)]) C 4 dL_law_946 rfl rfl (by decide) rfl ?_
    refine j_goto (pc := 949) (tgt := 23) C dL_law_949 (by decide) ?_
    refine j_widen (k := 30 + (j + 1)) (n := 33300 + 6 * (j + 1)) (by omega) (by omega) ?_
    exact j_lv [1, 2, 3, 4, 0] rfl (ih (j + 1) _ _ _ _ _ _ _ _ _ _ _ _ _ _ _ _ _ _ _ _ _ _ _ _ _ _ _ _ _ _ _ _ _ _ (by omega) hv6 hIw2)
  · refine j_iconst (pc := 310) (v := 1) C dL_law_310 (by decide) ?_
    refine j_goto (pc := 311) (tgt := 315) C dL_law_311 (by decide) ?_
    refine j_aload_n (pc := 315) C 0 dL_law_315 rfl rfl ?_
    refine j_iload (pc := 316) C 4 dL_law_316 rfl ?_
    refine j_iconst (pc := 318) (v := 3) C dL_law_318 (by decide) ?_
    refine j_iadd (pc := 319) C dL_law_319 ?_
    refine j_sld (pc := 320) C hX hbl hbA hv3 dL_law_320 ?_
    refine j_aload_n (pc := 321) C 0 dL_law_321 rfl rfl ?_
    refine j_iload (pc := 322) C 4 dL_law_322 rfl ?_
    refine j_iconst (pc := 324) (v := 4) C dL_law_324 (by decide) ?_
    refine j_iadd (pc := 325) C dL_law_325 ?_
    refine j_sld (pc := 326) C hX hbl hbA hv4 dL_law_326 ?_
    obtain ⟨rw3, rmw3, w3gM, w3mW, w3mth, hw3, hmw3, hIw3⟩ := S_context j _ _ _ _ _ _ _ _ _ _ _ _ _ _ _ _ _ _ _ _ _ _ _ _ _ _ _ _ _ _ _ _ (xs (v4 + 1).toNatClampNeg) 1 (xs (v4 + 3).toNatClampNeg) (xs (v4 + 4).toNatClampNeg) hjL hI
    refine j_callVi (pc := 327) (As := [.int (xs (v4 + 1).toNatClampNeg), .int 1, .int (xs (v4 + 3).toNatClampNeg), .int (xs (v4 + 4).toNatClampNeg)]) (rest := []) (ws' := (lww a k am km qo ko w3gM gnC gbC gnL gbL gnF gbF gnQ gbQ gE gtp glf gtr glh gov mW mC mL mR mQ mE mtb mnC mnL mnR mov mnQ mwr mwl mft mth mpl out)) C K (ci := 2) (q0 := 0) rfl rfl rfl (ctX2_context l D a k _ _ _ _ _ _ _ _ _ _ _ _ _ _ _ _ _ _ _ _ _ hw3) gL_law_X2_context rfl rfl rfl hdyX2_context ⟨Nat.le_of_ble_eq_true rfl, Nat.le_of_ble_eq_true rfl⟩ (List.range 19) rfl (by decide) (jspA rfl rfl) [0, 1, 2, 3, 4, 5] rfl rfl (Nat.le_of_ble_eq_true rfl) dL_law_327 ⟨by show 30 + j ≤ 601024; omega, by show 33300 + 6 * j ≤ 7293033; omega⟩ ?_
    refine j_pop (pc := 330) C dL_law_330 rfl ?_
    refine j_aload_n (pc := 331) C 2 dL_law_331 rfl rfl ?_
    refine j_aload_n (pc := 332) C 0 dL_law_332 rfl rfl ?_
    refine j_iload (pc := 333) C 4 dL_law_333 rfl ?_
    refine j_iconst (pc := 335) (v := 1) C dL_law_335 (by decide) ?_
    refine j_iadd (pc := 336) C dL_law_336 ?_
    refine j_sld (pc := 337) C hX hbl hbA hv1 dL_law_337 ?_
    refine j_aload_n (pc := 338) C 0 dL_law_338 rfl rfl ?_
    refine j_iload (pc := 339) C 4 dL_law_339 rfl ?_
    refine j_iconst (pc := 341) (v := 2) C dL_law_341 (by decide) ?_
    refine j_iadd (pc := 342) C dL_law_342 ?_
    refine j_sld (pc := 343) C hX hbl hbA hv2 dL_law_343 ?_
    refine j_if_eq (pc := 344) (tgt := 351) C dL_law_344 (by decide) (fun h => absurd h c1) (fun _ => ?_)
    refine j_iconst (pc := 347) (v := 1) C dL_law_347 (by decide) ?_
    refine j_goto (pc := 348) (tgt := 352) C dL_law_348 (by decide) ?_
    refine j_aload_n (pc := 352) C 0 dL_law_352 rfl rfl ?_
    refine j_iload (pc := 353) C 4 dL_law_353 rfl ?_
    refine j_iconst (pc := 355) (v := 3) C dL_law_355 (by decide) ?_
    refine j_iadd (pc := 356) C dL_law_356 ?_
    refine j_sld (pc := 357) C hX hbl hbA hv3 dL_law_357 ?_
    refine j_aload_n (pc := 358) C 0 dL_law_358 rfl rfl ?_
    refine j_iload (pc := 359) C 4 dL_law_359 rfl ?_
    refine j_iconst (pc := 361) (v := 4) C dL_law_361 (by decide) ?_
    refine j_iadd (pc := 362) C dL_law_362 ?_
    refine j_sld (pc := 363) C hX hbl hbA hv4 dL_law_363 ?_
    refine j_callVi (pc := 364) (As := [.int (xs (v4 + 1).toNatClampNeg), .int 1, .int (xs (v4 + 3).toNatClampNeg), .int (xs (v4 + 4).toNatClampNeg)]) (rest := []) (ws' := (lww a k am km qo ko w3gM gnC gbC gnL gbL gnF gbF gnQ gbQ gE gtp glf gtr glh gov w3mW mC mL mR mQ mE mtb mnC mnL mnR mov mnQ mwr mwl mft w3mth mpl out)) C K (ci := 3) (q0 := 0) rfl rfl rfl (ctX3_context l D am km _ _ _ _ _ _ _ _ _ _ _ _ _ _ _ _ _ _ _ _ _ _ _ _ hmw3) gL_law_X3_context rfl rfl rfl hdyX3_context ⟨Nat.le_of_ble_eq_true rfl, Nat.le_of_ble_eq_true rfl⟩ ((List.range 7).map (fun i => 19 + i)) rfl (by decide) (jspB rfl rfl rfl) [6, 7, 8, 9, 10, 11] rfl rfl (Nat.le_of_ble_eq_true rfl) dL_law_364 ⟨by show 30 + j ≤ 601024; omega, by show 33300 + 6 * j ≤ 7293033; omega⟩ ?_
    refine j_pop (pc := 367) C dL_law_367 rfl ?_
    refine j_goto (pc := 368) (tgt := 946) C dL_law_368 (by decide) ?_
    refine j_iinc (pc := 946) (v := (v4 + 6)) (lv' := [(4, .int (v4 + 6)), (0, .ref b), (1, .ref (a 0)), (2, .ref (am 0)), (3, .ref qo)]) C 4 dL_law_946 rfl rfl (by decide) rfl ?_
    refine j_goto (pc := 949) (tgt := 23) C dL_law_949 (by decide) ?_
    refine j_widen (k := 30 + (j + 1)) (n := 33300 + 6 * (j + 1)) (by omega) (by omega) ?_
    exact j_lv [1, 2, 3, 4, 0] rfl (ih (j + 1) _ _ _ _ _ _ _ _ _ _ _ _ _ _ _ _ _ _ _ _ _ _ _ _ _ _ _ _ _ _ _ _ _ _ (by omega) hv6 hIw3)
set_option maxHeartbeats 4000000 in
set_option maxRecDepth 100000 in
theorem lawc_enter {p : Program} {l : Launch} (hlt : l.stackTraces = false) {e : Env} {s : State} {m : MethodId} {below : List Frame} {meth : Method} {c : Code} {D : va_G} {b L : Nat} {xs : Nat → Int32} (hL : L ≤ 3072) (C : jc p s m #[Value.ref b] c code 7 RL wsL_law (fun q : Nat => s.heap.size ≤ q)) (hr : meth.sig.returnType = ret) (hlk : meth.locks = false) (hX : va_X b L xs s s.heap) (hbl : b < s.heap.size) (hxw : xw s) (hxz : xz (fun q : Nat => s.heap.size ≤ q) s s.heap) {I : Nat → GS → MS → Prop} (S_enter : sm_enter I 512) (a : Nat → Nat) (k : Nat → ClassId) (am : Nat → Nat) (km : Nat → ClassId) (qo : Nat) (ko : ClassId) (K : jk D (ltt k km ko) s) (j : Nat) (hjL : j < 512) (hj6 : 6 * j + 6 ≤ L) (v4 : Int32) (hv : v4 = nI (6 * j)) (gM : Nat → Int32) (gnC : Int32) (gbC : Nat → Int32) (gnL : Int32) (gbL : Nat → Int32) (gnF : Int32) (gbF : Nat → Int32) (gnQ : Int32) (gbQ : Nat → Int32) (gE : Nat → Nat → Int32) (gtp : Int32) (glf : Int32) (gtr : Int32) (glh : Int32) (gov : Int32) (mW : Nat → Int32) (mC : Nat → Int32) (mL : Nat → Int32) (mR : Nat → Int32) (mQ : Nat → Int32) (mE : Nat → Int32) (mtb : Int32) (mnC : Int32) (mnL : Int32) (mnR : Int32) (mov : Int32) (mnQ : Int32) (mwr : Int32) (mwl : Int32) (mft : Int32) (mth : Int32) (mpl : Int32) (out : Nat → Int64) (hI : I j (gM, gnC, gbC, gnL, gbL, gnF, gbF, gnQ, gbQ, gE, gtp, glf, gtr, glh, gov) (mW, mC, mL, mR, mQ, mE, mtb, mnC, mnL, mnR, mov, mnQ, mwr, mwl, mft, mth, mpl))
    (ih : ∀ (j2 : Nat) (gM : Nat → Int32) (gnC : Int32) (gbC : Nat → Int32) (gnL : Int32) (gbL : Nat → Int32) (gnF : Int32) (gbF : Nat → Int32) (gnQ : Int32) (gbQ : Nat → Int32) (gE : Nat → Nat → Int32) (gtp : Int32) (glf : Int32) (gtr : Int32) (glh : Int32) (gov : Int32) (mW : Nat → Int32) (mC : Nat → Int32) (mL : Nat → Int32) (mR : Nat → Int32) (mQ : Nat → Int32) (mE : Nat → Int32) (mtb : Int32) (mnC : Int32) (mnL : Int32) (mnR : Int32) (mov : Int32) (mnQ : Int32) (mwr : Int32) (mwl : Int32) (mft : Int32) (mth : Int32) (mpl : Int32) (out : Nat → Int64) (v4 : Int32), j2 = j + 1 → v4 = nI (6 * j2) → I j2 (gM, gnC, gbC, gnL, gbL, gnF, gbF, gnQ, gbQ, gE, gtp, glf, gtr, glh, gov) (mW, mC, mL, mR, mQ, mE, mtb, mnC, mnL, mnR, mov, mnQ, mwr, mwl, mft, mth, mpl) → jw p l e room_1 s m #[Value.ref b] below meth c 7 D (fun q : Nat => s.heap.size ≤ q) (30 + j2) (33300 + 6 * j2) (lw_Z below #[Value.ref b] s) (lww a k am km qo ko gM gnC gbC gnL gbL gnF gbF gnQ gbQ gE gtp glf gtr glh gov mW mC mL mR mQ mE mtb mnC mnL mnR mov mnQ mwr mwl mft mth mpl out) [(0, .ref b), (1, .ref (a 0)), (2, .ref (am 0)), (3, .ref qo), (4, .int v4)] 23 []) :
    jw p l e room_1 s m #[Value.ref b] below meth c 7 D (fun q : Nat => s.heap.size ≤ q) (30 + j) (33300 + 6 * j) (lw_Z below #[Value.ref b] s) (lww a k am km qo ko gM gnC gbC gnL gbL gnF gbF gnQ gbQ gE gtp glf gtr glh gov mW mC mL mR mQ mE mtb mnC mnL mnR mov mnQ mwr mwl mft mth mpl out) [(0, .ref b), (1, .ref (a 0)), (2, .ref (am 0)), (3, .ref qo), (4, .int v4)] 371 [] := by
  have hbA : ¬ (fun q : Nat => s.heap.size ≤ q) b := Nat.not_le.mpr hbl
  have hv1 : vp_in (v4 + 1) L := by rw [hv]; exact lawin hj6 (by omega) (k := 1) rfl (by omega)
  have hv2 : vp_in (v4 + 2) L := by rw [hv]; exact lawin hj6 (by omega) (k := 2) rfl (by omega)
  have hv3 : vp_in (v4 + 3) L := by rw [hv]; exact lawin hj6 (by omega) (k := 3) rfl (by omega)
  have hv4 : vp_in (v4 + 4) L := by rw [hv]; exact lawin hj6 (by omega) (k := 4) rfl (by omega)
  have hv5 : vp_in (v4 + 5) L := by rw [hv]; exact lawin hj6 (by omega) (k := 5) rfl (by omega)
  have hv6 : v4 + 6 = nI (6 * (j + 1)) := by rw [hv]; exact lawsix j
  refine j_aload_n (pc := 371) C 1 dL_law_371 rfl rfl ?_
  refine j_aload_n (pc := 372) C 0 dL_law_372 rfl rfl ?_
  refine j_iload (pc := 373) C 4 dL_law_373 rfl ?_
  refine j_iconst (pc := 375) (v := 1) C dL_law_375 (by decide) ?_
  refine j_iadd (pc := 376) C dL_law_376 ?_
  refine j_sld (pc := 377) C hX hbl hbA hv1 dL_law_377 ?_
  refine j_aload_n (pc := 378) C 0 dL_law_378 rfl rfl ?_
  refine j_iload (pc := 379) C 4 dL_law_379 rfl ?_
  refine j_iconst (pc := 381) (v := 2) C dL_law_381 (by decide) ?_
  refine j_iadd (pc := 382) C dL_law_382 ?_
  refine j_sld (pc := 383) C hX hbl hbA hv2 dL_law_383 ?_
  refine j_aload_n (pc := 384) C 0 dL_law_384 rfl rfl ?_
  refine j_iload (pc := 385) C 4 dL_law_385 rfl ?_
  refine j_iconst (pc := 387) (v := 3) C dL_law_387 (by decide) ?_
  refine j_iadd (pc := 388) C dL_law_388 ?_
  refine j_sld (pc := 389) C hX hbl hbA hv3 dL_law_389 ?_
  refine j_aload_n (pc := 390) C 0 dL_law_390 rfl rfl ?_
  refine j_iload (pc := 391) C 4 dL_law_391 rfl ?_
  refine j_iconst (pc := 393) (v := 4) C dL_law_393 (by decide) ?_
  refine j_iadd (pc := 394) C dL_law_394 ?_
  refine j_sld (pc := 395) C hX hbl hbA hv4 dL_law_395 ?_
  refine j_if_eq (pc := 396) (tgt := 403) C dL_law_396 (by decide) (fun c1 => ?_) (fun c1 => ?_)
  · refine j_iconst (pc := 403) (v := 0) C dL_law_403 (by decide) ?_
    refine j_aload_n (pc := 404) C 0 dL_law_404 rfl rfl ?_
    refine j_iload (pc := 405) C 4 dL_law_405 rfl ?_
    refine j_iconst (pc := 407) (v := 5) C dL_law_407 (by decide) ?_
    refine j_iadd (pc := 408) C dL_law_408 ?_
    refine j_sld (pc := 409) C hX hbl hbA hv5 dL_law_409 ?_
    obtain ⟨rw2, rmw2, w2gM, w2mW, w2mth, hw2, hmw2, hIw2⟩ := S_enter j _ _ _ _ _ _ _ _ _ _ _ _ _ _ _ _ _ _ _ _ _ _ _ _ _ _ _ _ _ _ _ _ (xs (v4 + 1).toNatClampNeg) (xs (v4 + 2).toNatClampNeg) (xs (v4 + 3).toNatClampNeg) 0 (xs (v4 + 5).toNatClampNeg) hjL hI
    refine j_callVi (pc := 410) (As := [.int (xs (v4 + 1).toNatClampNeg), .int (xs (v4 + 2).toNatClampNeg), .int (xs (v4 + 3).toNatClampNeg), .int 0, .int (xs (v4 + 5).toNatClampNeg)]) (rest := []) (ws' := (lww a k am km qo ko w2gM gnC gbC gnL gbL gnF gbF gnQ gbQ gE gtp glf gtr glh gov mW mC mL mR mQ mE mtb mnC mnL mnR mov mnQ mwr mwl mft mth mpl out)) C K (ci := 2) (q0 := 0) rfl rfl rfl (ctX2_enter l D a k _ _ _ _ _ _ _ _ _ _ _ _ _ _ _ _ _ _ _ _ _ _ hw2) gL_law_X2_enter rfl rfl rfl hdyX2_enter ⟨Nat.le_of_ble_eq_true rfl, Nat.le_of_ble_eq_true rfl⟩ (List.range 19) rfl (by decide) (jspA rfl rfl) [0, 1, 2, 3, 4, 5] rfl rfl (Nat.le_of_ble_eq_true rfl) dL_law_410 ⟨by show 30 + j ≤ 601024; omega, by show 33300 + 6 * j ≤ 7293033; omega⟩ ?_
    refine j_pop (pc := 413) C dL_law_413 rfl ?_
    refine j_aload_n (pc := 414) C 2 dL_law_414 rfl rfl ?_
    refine j_aload_n (pc := 415) C 0 dL_law_415 rfl rfl ?_
    refine j_iload (pc := 416) C 4 dL_law_416 rfl ?_
    refine j_iconst (pc := 418) (v := 1) C dL_law_418 (by decide) ?_
    refine j_iadd (pc := 419) C dL_law_419 ?_
    refine j_sld (pc := 420) C hX hbl hbA hv1 dL_law_420 ?_
    refine j_aload_n (pc := 421) C 0 dL_law_421 rfl rfl ?_
    refine j_iload (pc := 422) C 4 dL_law_422 rfl ?_
    refine j_iconst (pc := 424) (v := 2) C dL_law_424 (by decide) ?_
    refine j_iadd (pc := 425) C dL_law_425 ?_
    refine j_sld (pc := 426) C hX hbl hbA hv2 dL_law_426 ?_
    refine j_aload_n (pc := 427) C 0 dL_law_427 rfl rfl ?_
    refine j_iload (pc := 428) C 4 dL_law_428 rfl ?_
    refine j_iconst (pc := 430) (v := 3) C dL_law_430 (by decide) ?_
    refine j_iadd (pc := 431) C dL_law_431 ?_
    refine j_sld (pc := 432) C hX hbl hbA hv3 dL_law_432 ?_
    refine j_aload_n (pc := 433) C 0 dL_law_433 rfl rfl ?_
    refine j_iload (pc := 434) C 4 dL_law_434 rfl ?_
    refine j_iconst (pc := 436) (v := 4) C dL_law_436 (by decide) ?_
    refine j_iadd (pc := 437) C dL_law_437 ?_
    refine j_sld (pc := 438) C hX hbl hbA hv4 dL_law_438 ?_
    refine j_if_eq (pc := 439) (tgt := 446) C dL_law_439 (by decide) (fun _ => ?_) (fun h => absurd c1 h)
    refine j_iconst (pc := 446) (v := 0) C dL_law_446 (by decide) ?_
    refine j_aload_n (pc := 447) C 0 dL_law_447 rfl rfl ?_
    refine j_iload (pc := 448) C 4 dL_law_448 rfl ?_
    refine j_iconst (pc := 450) (v := 5) C dL_law_450 (by decide) ?_
    refine j_iadd (pc := 451) C dL_law_451 ?_
    refine j_sld (pc := 452) C hX hbl hbA hv5 dL_law_452 ?_
    refine j_callVi (pc := 453) (As := [.int (xs (v4 + 1).toNatClampNeg), .int (xs (v4 + 2).toNatClampNeg), .int (xs (v4 + 3).toNatClampNeg), .int 0, .int (xs (v4 + 5).toNatClampNeg)]) (rest := []) (ws' := (lww a k am km qo ko w2gM gnC gbC gnL gbL gnF gbF gnQ gbQ gE gtp glf gtr glh gov w2mW mC mL mR mQ mE mtb mnC mnL mnR mov mnQ mwr mwl mft w2mth mpl out)) C K (ci := 3) (q0 := 0) rfl rfl rfl (ctX3_enter l D am km _ _ _ _ _ _ _ _ _ _ _ _ _ _ _ _ _ _ _ _ _ _ _ _ _ hmw2) gL_law_X3_enter rfl rfl rfl hdyX3_enter ⟨Nat.le_of_ble_eq_true rfl, Nat.le_of_ble_eq_true rfl⟩ ((List.range 7).map (fun i => 19 + i)) rfl (by decide) (jspB rfl rfl rfl) [6, 7, 8, 9, 10, 11] rfl rfl (Nat.le_of_ble_eq_true rfl) dL_law_453 ⟨by show 30 + j ≤ 601024; omega, by show 33300 + 6 * j ≤ 7293033; omega⟩ ?_
    refine j_pop (pc := 456) C dL_law_456 rfl ?_
    refine j_goto (pc := 457) (tgt := 946) C dL_law_457 (by decide) ?_
    refine j_iinc (pc := 946) (v := (v4 + 6)) (lv' := [(4, .int (v4 + 6)), (0, .ref b), (1, .ref (a 0)), (2, .ref (am 0)), (3, .ref qo)]) C 4 dL_law_946 rfl rfl (by decide) rfl ?_
    refine j_goto (pc := 949) (tgt := 23) C dL_law_949 (by decide) ?_
    refine j_widen (k := 30 + (j + 1)) (n := 33300 + 6 * (j + 1)) (by omega) (by omega) ?_
    exact j_lv [1, 2, 3, 4, 0] rfl (ih (j + 1) _ _ _ _ _ _ _ _ _ _ _ _ _ _ _ _ _ _ _ _ _ _ _ _ _ _ _ _ _ _ _ _ _ _ (by omega) hv6 hIw2)
  · refine j_iconst (pc := 399) (v := 1) C dL_law_399 (by decide) ?_
    refine j_goto (pc := 400) (tgt := 404) C dL_law_400 (by decide) ?_
    refine j_aload_n (pc := 404) C 0 dL_law_404 rfl rfl ?_
    refine j_iload (pc := 405) C 4 dL_law_405 rfl ?_
    refine j_iconst (pc := 407) (v := 5) C dL_law_407 (by decide) ?_
    refine j_iadd (pc := 408) C dL_law_408 ?_
    refine j_sld (pc := 409) C hX hbl hbA hv5 dL_law_409 ?_
    obtain ⟨rw3, rmw3, w3gM, w3mW, w3mth, hw3, hmw3, hIw3⟩ := S_enter j _ _ _ _ _ _ _ _ _ _ _ _ _ _ _ _ _ _ _ _ _ _ _ _ _ _ _ _ _ _ _ _ (xs (v4 + 1).toNatClampNeg) (xs (v4 + 2).toNatClampNeg) (xs (v4 + 3).toNatClampNeg) 1 (xs (v4 + 5).toNatClampNeg) hjL hI
    refine j_callVi (pc := 410) (As := [.int (xs (v4 + 1).toNatClampNeg), .int (xs (v4 + 2).toNatClampNeg), .int (xs (v4 + 3).toNatClampNeg), .int 1, .int (xs (v4 + 5).toNatClampNeg)]) (rest := []) (ws' := (lww a k am km qo ko w3gM gnC gbC gnL gbL gnF gbF gnQ gbQ gE gtp glf gtr glh gov mW mC mL mR mQ mE mtb mnC mnL mnR mov mnQ mwr mwl mft mth mpl out)) C K (ci := 2) (q0 := 0) rfl rfl rfl (ctX2_enter l D a k _ _ _ _ _ _ _ _ _ _ _ _ _ _ _ _ _ _ _ _ _ _ hw3) gL_law_X2_enter rfl rfl rfl hdyX2_enter ⟨Nat.le_of_ble_eq_true rfl, Nat.le_of_ble_eq_true rfl⟩ (List.range 19) rfl (by decide) (jspA rfl rfl) [0, 1, 2, 3, 4, 5] rfl rfl (Nat.le_of_ble_eq_true rfl) dL_law_410 ⟨by show 30 + j ≤ 601024; omega, by show 33300 + 6 * j ≤ 7293033; omega⟩ ?_
    refine j_pop (pc := 413) C dL_law_413 rfl ?_
    refine j_aload_n (pc := 414) C 2 dL_law_414 rfl rfl ?_
    refine j_aload_n (pc := 415) C 0 dL_law_415 rfl rfl ?_
    refine j_iload (pc := 416) C 4 dL_law_416 rfl ?_
    refine j_iconst (pc := 418) (v := 1) C dL_law_418 (by decide) ?_
    refine j_iadd (pc := 419) C dL_law_419 ?_
    refine j_sld (pc := 420) C hX hbl hbA hv1 dL_law_420 ?_
    refine j_aload_n (pc := 421) C 0 dL_law_421 rfl rfl ?_
    refine j_iload (pc := 422) C 4 dL_law_422 rfl ?_
    refine j_iconst (pc := 424) (v := 2) C dL_law_424 (by decide) ?_
    refine j_iadd (pc := 425) C dL_law_425 ?_
    refine j_sld (pc := 426) C hX hbl hbA hv2 dL_law_426 ?_
    refine j_aload_n (pc := 427) C 0 dL_law_427 rfl rfl ?_
    refine j_iload (pc := 428) C 4 dL_law_428 rfl ?_
    refine j_iconst (pc := 430) (v := 3) C dL_law_430 (by decide) ?_
    refine j_iadd (pc := 431) C dL_law_431 ?_
    refine j_sld (pc := 432) C hX hbl hbA hv3 dL_law_432 ?_
    refine j_aload_n (pc := 433) C 0 dL_law_433 rfl rfl ?_
    refine j_iload (pc := 434) C 4 dL_law_434 rfl ?_
    refine j_iconst (pc := 436) (v := 4) C dL_law_436 (by decide) ?_
    refine j_iadd (pc := 437) C dL_law_437 ?_
    refine j_sld (pc := 438) C hX hbl hbA hv4 dL_law_438 ?_
    refine j_if_eq (pc := 439) (tgt := 446) C dL_law_439 (by decide) (fun h => absurd h c1) (fun _ => ?_)
    refine j_iconst (pc := 442) (v := 1) C dL_law_442 (by decide) ?_
    refine j_goto (pc := 443) (tgt := 447) C dL_law_443 (by decide) ?_
    refine j_aload_n (pc := 447) C 0 dL_law_447 rfl rfl ?_
    refine j_iload (pc := 448) C 4 dL_law_448 rfl ?_
    refine j_iconst (pc := 450) (v := 5) C dL_law_450 (by decide) ?_
    refine j_iadd (pc := 451) C dL_law_451 ?_
    refine j_sld (pc := 452) C hX hbl hbA hv5 dL_law_452 ?_
    refine j_callVi (pc := 453) (As := [.int (xs (v4 + 1).toNatClampNeg), .int (xs (v4 + 2).toNatClampNeg), .int (xs (v4 + 3).toNatClampNeg), .int 1, .int (xs (v4 + 5).toNatClampNeg)]) (rest := []) (ws' := (lww a k am km qo ko w3gM gnC gbC gnL gbL gnF gbF gnQ gbQ gE gtp glf gtr glh gov w3mW mC mL mR mQ mE mtb mnC mnL mnR mov mnQ mwr mwl mft w3mth mpl out)) C K (ci := 3) (q0 := 0) rfl rfl rfl (ctX3_enter l D am km _ _ _ _ _ _ _ _ _ _ _ _ _ _ _ _ _ _ _ _ _ _ _ _ _ hmw3) gL_law_X3_enter rfl rfl rfl hdyX3_enter ⟨Nat.le_of_ble_eq_true rfl, Nat.le_of_ble_eq_true rfl⟩ ((List.range 7).map (fun i => 19 + i)) rfl (by decide) (jspB rfl rfl rfl) [6, 7, 8, 9, 10, 11] rfl rfl (Nat.le_of_ble_eq_true rfl) dL_law_453 ⟨by show 30 + j ≤ 601024; omega, by show 33300 + 6 * j ≤ 7293033; omega⟩ ?_
    refine j_pop (pc := 456) C dL_law_456 rfl ?_
    refine j_goto (pc := 457) (tgt := 946) C dL_law_457 (by decide) ?_
    refine j_iinc (pc := 946) (v := (v4 + 6)) (lv' := [(4, .int (v4 + 6)), (0, .ref b), (1, .ref (a 0)), (2, .ref (am 0)), (3, .ref qo)]) C 4 dL_law_946 rfl rfl (by decide) rfl ?_
    refine j_goto (pc := 949) (tgt := 23) C dL_law_949 (by decide) ?_
    refine j_widen (k := 30 + (j + 1)) (n := 33300 + 6 * (j + 1)) (by omega) (by omega) ?_
    exact j_lv [1, 2, 3, 4, 0] rfl (ih (j + 1) _ _ _ _ _ _ _ _ _ _ _ _ _ _ _ _ _ _ _ _ _ _ _ _ _ _ _ _ _ _ _ _ _ _ (by omega) hv6 hIw3)
set_option maxHeartbeats 4000000 in
set_option maxRecDepth 100000 in
theorem lawc_read {p : Program} {l : Launch} (hlt : l.stackTraces = false) {e : Env} {s : State} {m : MethodId} {below : List Frame} {meth : Method} {c : Code} {D : va_G} {b L : Nat} {xs : Nat → Int32} (hL : L ≤ 3072) (C : jc p s m #[Value.ref b] c code 7 RL wsL_law (fun q : Nat => s.heap.size ≤ q)) (hr : meth.sig.returnType = ret) (hlk : meth.locks = false) (hX : va_X b L xs s s.heap) (hbl : b < s.heap.size) (hxw : xw s) (hxz : xz (fun q : Nat => s.heap.size ≤ q) s s.heap) {I : Nat → GS → MS → Prop} (S_read : sm_read I 512) (a : Nat → Nat) (k : Nat → ClassId) (am : Nat → Nat) (km : Nat → ClassId) (qo : Nat) (ko : ClassId) (K : jk D (ltt k km ko) s) (j : Nat) (hjL : j < 512) (hj6 : 6 * j + 6 ≤ L) (v4 : Int32) (hv : v4 = nI (6 * j)) (gM : Nat → Int32) (gnC : Int32) (gbC : Nat → Int32) (gnL : Int32) (gbL : Nat → Int32) (gnF : Int32) (gbF : Nat → Int32) (gnQ : Int32) (gbQ : Nat → Int32) (gE : Nat → Nat → Int32) (gtp : Int32) (glf : Int32) (gtr : Int32) (glh : Int32) (gov : Int32) (mW : Nat → Int32) (mC : Nat → Int32) (mL : Nat → Int32) (mR : Nat → Int32) (mQ : Nat → Int32) (mE : Nat → Int32) (mtb : Int32) (mnC : Int32) (mnL : Int32) (mnR : Int32) (mov : Int32) (mnQ : Int32) (mwr : Int32) (mwl : Int32) (mft : Int32) (mth : Int32) (mpl : Int32) (out : Nat → Int64) (hI : I j (gM, gnC, gbC, gnL, gbL, gnF, gbF, gnQ, gbQ, gE, gtp, glf, gtr, glh, gov) (mW, mC, mL, mR, mQ, mE, mtb, mnC, mnL, mnR, mov, mnQ, mwr, mwl, mft, mth, mpl))
    (ih : ∀ (j2 : Nat) (gM : Nat → Int32) (gnC : Int32) (gbC : Nat → Int32) (gnL : Int32) (gbL : Nat → Int32) (gnF : Int32) (gbF : Nat → Int32) (gnQ : Int32) (gbQ : Nat → Int32) (gE : Nat → Nat → Int32) (gtp : Int32) (glf : Int32) (gtr : Int32) (glh : Int32) (gov : Int32) (mW : Nat → Int32) (mC : Nat → Int32) (mL : Nat → Int32) (mR : Nat → Int32) (mQ : Nat → Int32) (mE : Nat → Int32) (mtb : Int32) (mnC : Int32) (mnL : Int32) (mnR : Int32) (mov : Int32) (mnQ : Int32) (mwr : Int32) (mwl : Int32) (mft : Int32) (mth : Int32) (mpl : Int32) (out : Nat → Int64) (v4 : Int32), j2 = j + 1 → v4 = nI (6 * j2) → I j2 (gM, gnC, gbC, gnL, gbL, gnF, gbF, gnQ, gbQ, gE, gtp, glf, gtr, glh, gov) (mW, mC, mL, mR, mQ, mE, mtb, mnC, mnL, mnR, mov, mnQ, mwr, mwl, mft, mth, mpl) → jw p l e room_1 s m #[Value.ref b] below meth c 7 D (fun q : Nat => s.heap.size ≤ q) (30 + j2) (33300 + 6 * j2) (lw_Z below #[Value.ref b] s) (lww a k am km qo ko gM gnC gbC gnL gbL gnF gbF gnQ gbQ gE gtp glf gtr glh gov mW mC mL mR mQ mE mtb mnC mnL mnR mov mnQ mwr mwl mft mth mpl out) [(0, .ref b), (1, .ref (a 0)), (2, .ref (am 0)), (3, .ref qo), (4, .int v4)] 23 []) :
    jw p l e room_1 s m #[Value.ref b] below meth c 7 D (fun q : Nat => s.heap.size ≤ q) (30 + j) (33300 + 6 * j) (lw_Z below #[Value.ref b] s) (lww a k am km qo ko gM gnC gbC gnL gbL gnF gbF gnQ gbQ gE gtp glf gtr glh gov mW mC mL mR mQ mE mtb mnC mnL mnR mov mnQ mwr mwl mft mth mpl out) [(0, .ref b), (1, .ref (a 0)), (2, .ref (am 0)), (3, .ref qo), (4, .int v4)] 460 [] := by
  have hbA : ¬ (fun q : Nat => s.heap.size ≤ q) b := Nat.not_le.mpr hbl
  have hv1 : vp_in (v4 + 1) L := by rw [hv]; exact lawin hj6 (by omega) (k := 1) rfl (by omega)
  have hv2 : vp_in (v4 + 2) L := by rw [hv]; exact lawin hj6 (by omega) (k := 2) rfl (by omega)
  have hv3 : vp_in (v4 + 3) L := by rw [hv]; exact lawin hj6 (by omega) (k := 3) rfl (by omega)
  have hv4 : vp_in (v4 + 4) L := by rw [hv]; exact lawin hj6 (by omega) (k := 4) rfl (by omega)
  have hv5 : vp_in (v4 + 5) L := by rw [hv]; exact lawin hj6 (by omega) (k := 5) rfl (by omega)
  have hv6 : v4 + 6 = nI (6 * (j + 1)) := by rw [hv]; exact lawsix j
  refine j_aload_n (pc := 460) C 1 dL_law_460 rfl rfl ?_
  refine j_aload_n (pc := 461) C 0 dL_law_461 rfl rfl ?_
  refine j_iload (pc := 462) C 4 dL_law_462 rfl ?_
  refine j_iconst (pc := 464) (v := 1) C dL_law_464 (by decide) ?_
  refine j_iadd (pc := 465) C dL_law_465 ?_
  refine j_sld (pc := 466) C hX hbl hbA hv1 dL_law_466 ?_
  refine j_aload_n (pc := 467) C 0 dL_law_467 rfl rfl ?_
  refine j_iload (pc := 468) C 4 dL_law_468 rfl ?_
  refine j_iconst (pc := 470) (v := 2) C dL_law_470 (by decide) ?_
  refine j_iadd (pc := 471) C dL_law_471 ?_
  refine j_sld (pc := 472) C hX hbl hbA hv2 dL_law_472 ?_
  refine j_aload_n (pc := 473) C 3 dL_law_473 rfl rfl ?_
  rcases S_read j _ _ _ _ _ _ _ _ _ _ _ _ _ _ _ _ _ _ _ _ _ _ _ _ _ _ _ _ _ _ _ _ (xs (v4 + 1).toNatClampNeg) (xs (v4 + 2).toNatClampNeg) hjL hI with ⟨rw1, rmw1, w1gnC, w1gbC, w1gnL, w1gbL, w1gnF, w1gbF, w1glf, w1gtr, w1glh, w1gov, w1mC, w1mL, w1mR, w1mnC, w1mnL, w1mnR, w1mov, w1mwr, w1mwl, w1mft, w1mth, w1mpl, hw1, hmw1, hIw1⟩ | ⟨rmw1, w1mC, w1mL, w1mR, w1mnC, w1mnL, w1mnR, w1mov, w1mwr, w1mwl, w1mft, w1mth, w1mpl, hw1, hmw1, hIw1⟩
  · refine j_callSM (pc := 474) (As := [.ref (a 0), .int (xs (v4 + 1).toNatClampNeg), .int (xs (v4 + 2).toNatClampNeg), .ref qo]) (rest := []) (ws' := (lww a k am km qo ko gM w1gnC w1gbC w1gnL w1gbL w1gnF w1gbF gnQ gbQ gE gtp w1glf w1gtr w1glh w1gov mW mC mL mR mQ mE mtb mnC mnL mnR mov mnQ mwr mwl mft mth mpl (vp_updL out (0 : Int32).toNatClampNeg rw1.toInt64))) C K hxw hxz (ctL_read_ret l D a k _ _ _ _ _ _ _ _ _ _ _ _ _ _ _ qo ko out _ _ _ _ _ _ _ _ _ _ _ _ _ hw1) gL_law_L_read rfl rfl rfl hdyL_read ⟨Nat.le_of_ble_eq_true rfl, Nat.le_of_ble_eq_true rfl⟩ (List.range 19 ++ (List.range 1).map (fun i => (19 + 7) + i)) rfl (by decide) (jspH rfl rfl rfl rfl rfl) [0, 1, 2, 3, 4, 5, 12] rfl rfl (Nat.le_of_ble_eq_true rfl) dL_law_474 ⟨by show 30 + j + 1 ≤ 601024; omega, by show 33300 + 6 * j + 6 ≤ 7293033; omega⟩ ?_
    refine j_istore (pc := 477) (lv' := [(5, .int 0), (0, .ref b), (1, .ref (a 0)), (2, .ref (am 0)), (3, .ref qo), (4, .int v4)]) C dL_law_477 (by decide) rfl ?_
    refine j_aload_n (pc := 479) C 3 dL_law_479 rfl rfl ?_
    refine j_aload_n (pc := 480) C 1 dL_law_480 rfl rfl ?_
    refine j_iload (pc := 481) C 5 dL_law_481 rfl ?_
    refine j_iconst (pc := 483) (v := 1) C dL_law_483 (by decide) ?_
    refine j_iadd (pc := 484) C dL_law_484 ?_
    refine j_sld (pc := 485) C hX hbl hbA hv1 dL_law_485 ?_
    refine j_aload_n (pc := 486) C 1 dL_law_486 rfl rfl ?_
    refine j_iload (pc := 487) C 5 dL_law_487 rfl ?_
    refine j_iconst (pc := 489) (v := 2) C dL_law_489 (by decide) ?_
    refine j_iadd (pc := 490) C dL_law_490 ?_
    refine j_sld (pc := 491) C hX hbl hbA hv2 dL_law_491 ?_
    refine j_callVi (pc := 492) (As := [.int (xs (v4 + 1).toNatClampNeg), .int (xs (v4 + 2).toNatClampNeg)]) (rest := []) (ws' := (lww a k am km qo ko gM w1gnC w1gbC w1gnL w1gbL w1gnF w1gbF gnQ gbQ gE gtp w1glf w1gtr w1glh w1gov mW w1mC w1mL w1mR mQ mE mtb w1mnC w1mnL w1mnR w1mov mnQ w1mwr w1mwl w1mft w1mth w1mpl (vp_updL out (0 : Int32).toNatClampNeg rw1.toInt64))) C K (ci := 3) (q0 := 0) rfl rfl rfl (ctX3_read l D am km _ _ _ _ _ _ _ _ _ _ _ _ _ _ _ _ _ _ _ _ _ _ _ _ _ _ _ _ _ _ _ _ hmw1) gL_law_X3_read rfl rfl rfl hdyX3_read ⟨Nat.le_of_ble_eq_true rfl, Nat.le_of_ble_eq_true rfl⟩ ((List.range 7).map (fun i => 19 + i)) rfl (by decide) (jspB rfl rfl rfl) [6, 7, 8, 9, 10, 11] rfl rfl (Nat.le_of_ble_eq_true rfl) dL_law_492 ⟨by show 30 + j + 1 ≤ 601024; omega, by show 33300 + 6 * j + 6 ≤ 7293033; omega⟩ ?_
    refine j_istore (pc := 495) (lv' := [(6, .int rmw1), (5, .int 0), (0, .ref b), (1, .ref (a 0)), (2, .ref (am 0)), (3, .ref qo), (4, .int v4)]) C dL_law_495 (by decide) rfl ?_
    refine j_goto (pc := 497) (tgt := 946) C dL_law_497 (by decide) ?_
    refine j_iinc (pc := 946) (v := (v4 + 6)) (lv' := [(4, .int (v4 + 6)), (6, .int rmw1), (5, .int 0), (0, .ref b), (1, .ref (a 0)), (2, .ref (am 0)), (3, .ref qo)]) C 6 dL_law_946 rfl rfl (by decide) rfl ?_
    refine j_goto (pc := 949) (tgt := 23) C dL_law_949 (by decide) ?_
    refine j_widen (k := 30 + (j + 1)) (n := 33300 + 6 * (j + 1)) (by omega) (by omega) ?_
    exact j_lv [3, 4, 5, 6, 0] rfl (ih (j + 1) _ _ _ _ _ _ _ _ _ _ _ _ _ _ _ _ _ _ _ _ _ _ _ _ _ _ _ _ _ _ _ _ _ _ (by omega) hv6 hIw1)
  · refine j_callSM (pc := 474) (As := [.ref (a 0), .int (xs (v4 + 1).toNatClampNeg), .int (xs (v4 + 2).toNatClampNeg), .ref qo]) (rest := []) (ws' := (lww a k am km qo ko gM gnC gbC gnL gbL gnF gbF gnQ gbQ gE gtp 0 gtr glh gov mW mC mL mR mQ mE mtb mnC mnL mnR mov mnQ mwr mwl mft mth mpl out)) C K hxw hxz (ctL_read_thr l hlt D a k _ _ _ _ _ _ _ _ _ _ _ _ _ _ _ qo ko out _ _ hw1) gL_law_L_read rfl rfl rfl hdyL_read ⟨Nat.le_of_ble_eq_true rfl, Nat.le_of_ble_eq_true rfl⟩ (List.range 19 ++ (List.range 1).map (fun i => (19 + 7) + i)) rfl (by decide) (jspH rfl rfl rfl rfl rfl) [0, 1, 2, 3, 4, 5, 12] rfl rfl (Nat.le_of_ble_eq_true rfl) dL_law_474 ⟨by show 30 + j + 1 ≤ 601024; omega, by show 33300 + 6 * j + 6 ≤ 7293033; omega⟩ ?_
    refine j_istore (pc := 477) (lv' := [(5, .int 1), (0, .ref b), (1, .ref (a 0)), (2, .ref (am 0)), (3, .ref qo), (4, .int v4)]) C dL_law_477 (by decide) rfl ?_
    refine j_aload_n (pc := 479) C 3 dL_law_479 rfl rfl ?_
    refine j_aload_n (pc := 480) C 1 dL_law_480 rfl rfl ?_
    refine j_iload (pc := 481) C 5 dL_law_481 rfl ?_
    refine j_iconst (pc := 483) (v := 1) C dL_law_483 (by decide) ?_
    refine j_iadd (pc := 484) C dL_law_484 ?_
    refine j_sld (pc := 485) C hX hbl hbA hv1 dL_law_485 ?_
    refine j_aload_n (pc := 486) C 1 dL_law_486 rfl rfl ?_
    refine j_iload (pc := 487) C 5 dL_law_487 rfl ?_
    refine j_iconst (pc := 489) (v := 2) C dL_law_489 (by decide) ?_
    refine j_iadd (pc := 490) C dL_law_490 ?_
    refine j_sld (pc := 491) C hX hbl hbA hv2 dL_law_491 ?_
    refine j_callVi (pc := 492) (As := [.int (xs (v4 + 1).toNatClampNeg), .int (xs (v4 + 2).toNatClampNeg)]) (rest := []) (ws' := (lww a k am km qo ko gM gnC gbC gnL gbL gnF gbF gnQ gbQ gE gtp 0 gtr glh gov mW w1mC w1mL w1mR mQ mE mtb w1mnC w1mnL w1mnR w1mov mnQ w1mwr w1mwl w1mft w1mth w1mpl out)) C K (ci := 3) (q0 := 0) rfl rfl rfl (ctX3_read l D am km _ _ _ _ _ _ _ _ _ _ _ _ _ _ _ _ _ _ _ _ _ _ _ _ _ _ _ _ _ _ _ _ hmw1) gL_law_X3_read rfl rfl rfl hdyX3_read ⟨Nat.le_of_ble_eq_true rfl, Nat.le_of_ble_eq_true rfl⟩ ((List.range 7).map (fun i => 19 + i)) rfl (by decide) (jspB rfl rfl rfl) [6, 7, 8, 9, 10, 11] rfl rfl (Nat.le_of_ble_eq_true rfl) dL_law_492 ⟨by show 30 + j + 1 ≤ 601024; omega, by show 33300 + 6 * j + 6 ≤ 7293033; omega⟩ ?_
    refine j_istore (pc := 495) (lv' := [(6, .int rmw1), (5, .int 1), (0, .ref b), (1, .ref (a 0)), (2, .ref (am 0)), (3, .ref qo), (4, .int v4)]) C dL_law_495 (by decide) rfl ?_
    refine j_goto (pc := 497) (tgt := 946) C dL_law_497 (by decide) ?_
    refine j_iinc (pc := 946) (v := (v4 + 6)) (lv' := [(4, .int (v4 + 6)), (6, .int rmw1), (5, .int 1), (0, .ref b), (1, .ref (a 0)), (2, .ref (am 0)), (3, .ref qo)]) C 6 dL_law_946 rfl rfl (by decide) rfl ?_
    refine j_goto (pc := 949) (tgt := 23) C dL_law_949 (by decide) ?_
    refine j_widen (k := 30 + (j + 1)) (n := 33300 + 6 * (j + 1)) (by omega) (by omega) ?_
    exact j_lv [3, 4, 5, 6, 0] rfl (ih (j + 1) _ _ _ _ _ _ _ _ _ _ _ _ _ _ _ _ _ _ _ _ _ _ _ _ _ _ _ _ _ _ _ _ _ _ (by omega) hv6 hIw1)
set_option maxHeartbeats 4000000 in
set_option maxRecDepth 100000 in
theorem lawc_write {p : Program} {l : Launch} (hlt : l.stackTraces = false) {e : Env} {s : State} {m : MethodId} {below : List Frame} {meth : Method} {c : Code} {D : va_G} {b L : Nat} {xs : Nat → Int32} (hL : L ≤ 3072) (C : jc p s m #[Value.ref b] c code 7 RL wsL_law (fun q : Nat => s.heap.size ≤ q)) (hr : meth.sig.returnType = ret) (hlk : meth.locks = false) (hX : va_X b L xs s s.heap) (hbl : b < s.heap.size) (hxw : xw s) (hxz : xz (fun q : Nat => s.heap.size ≤ q) s s.heap) {I : Nat → GS → MS → Prop} (S_write : sm_write I 512) (a : Nat → Nat) (k : Nat → ClassId) (am : Nat → Nat) (km : Nat → ClassId) (qo : Nat) (ko : ClassId) (K : jk D (ltt k km ko) s) (j : Nat) (hjL : j < 512) (hj6 : 6 * j + 6 ≤ L) (v4 : Int32) (hv : v4 = nI (6 * j)) (gM : Nat → Int32) (gnC : Int32) (gbC : Nat → Int32) (gnL : Int32) (gbL : Nat → Int32) (gnF : Int32) (gbF : Nat → Int32) (gnQ : Int32) (gbQ : Nat → Int32) (gE : Nat → Nat → Int32) (gtp : Int32) (glf : Int32) (gtr : Int32) (glh : Int32) (gov : Int32) (mW : Nat → Int32) (mC : Nat → Int32) (mL : Nat → Int32) (mR : Nat → Int32) (mQ : Nat → Int32) (mE : Nat → Int32) (mtb : Int32) (mnC : Int32) (mnL : Int32) (mnR : Int32) (mov : Int32) (mnQ : Int32) (mwr : Int32) (mwl : Int32) (mft : Int32) (mth : Int32) (mpl : Int32) (out : Nat → Int64) (hI : I j (gM, gnC, gbC, gnL, gbL, gnF, gbF, gnQ, gbQ, gE, gtp, glf, gtr, glh, gov) (mW, mC, mL, mR, mQ, mE, mtb, mnC, mnL, mnR, mov, mnQ, mwr, mwl, mft, mth, mpl))
    (ih : ∀ (j2 : Nat) (gM : Nat → Int32) (gnC : Int32) (gbC : Nat → Int32) (gnL : Int32) (gbL : Nat → Int32) (gnF : Int32) (gbF : Nat → Int32) (gnQ : Int32) (gbQ : Nat → Int32) (gE : Nat → Nat → Int32) (gtp : Int32) (glf : Int32) (gtr : Int32) (glh : Int32) (gov : Int32) (mW : Nat → Int32) (mC : Nat → Int32) (mL : Nat → Int32) (mR : Nat → Int32) (mQ : Nat → Int32) (mE : Nat → Int32) (mtb : Int32) (mnC : Int32) (mnL : Int32) (mnR : Int32) (mov : Int32) (mnQ : Int32) (mwr : Int32) (mwl : Int32) (mft : Int32) (mth : Int32) (mpl : Int32) (out : Nat → Int64) (v4 : Int32), j2 = j + 1 → v4 = nI (6 * j2) → I j2 (gM, gnC, gbC, gnL, gbL, gnF, gbF, gnQ, gbQ, gE, gtp, glf, gtr, glh, gov) (mW, mC, mL, mR, mQ, mE, mtb, mnC, mnL, mnR, mov, mnQ, mwr, mwl, mft, mth, mpl) → jw p l e room_1 s m #[Value.ref b] below meth c 7 D (fun q : Nat => s.heap.size ≤ q) (30 + j2) (33300 + 6 * j2) (lw_Z below #[Value.ref b] s) (lww a k am km qo ko gM gnC gbC gnL gbL gnF gbF gnQ gbQ gE gtp glf gtr glh gov mW mC mL mR mQ mE mtb mnC mnL mnR mov mnQ mwr mwl mft mth mpl out) [(0, .ref b), (1, .ref (a 0)), (2, .ref (am 0)), (3, .ref qo), (4, .int v4)] 23 []) :
    jw p l e room_1 s m #[Value.ref b] below meth c 7 D (fun q : Nat => s.heap.size ≤ q) (30 + j) (33300 + 6 * j) (lw_Z below #[Value.ref b] s) (lww a k am km qo ko gM gnC gbC gnL gbL gnF gbF gnQ gbQ gE gtp glf gtr glh gov mW mC mL mR mQ mE mtb mnC mnL mnR mov mnQ mwr mwl mft mth mpl out) [(0, .ref b), (1, .ref (a 0)), (2, .ref (am 0)), (3, .ref qo), (4, .int v4)] 500 [] := by
  have hbA : ¬ (fun q : Nat => s.heap.size ≤ q) b := Nat.not_le.mpr hbl
  have hv1 : vp_in (v4 + 1) L := by rw [hv]; exact lawin hj6 (by omega) (k := 1) rfl (by omega)
  have hv2 : vp_in (v4 + 2) L := by rw [hv]; exact lawin hj6 (by omega) (k := 2) rfl (by omega)
  have hv3 : vp_in (v4 + 3) L := by rw [hv]; exact lawin hj6 (by omega) (k := 3) rfl (by omega)
  have hv4 : vp_in (v4 + 4) L := by rw [hv]; exact lawin hj6 (by omega) (k := 4) rfl (by omega)
  have hv5 : vp_in (v4 + 5) L := by rw [hv]; exact lawin hj6 (by omega) (k := 5) rfl (by omega)
  have hv6 : v4 + 6 = nI (6 * (j + 1)) := by rw [hv]; exact lawsix j
  refine j_aload_n (pc := 500) C 1 dL_law_500 rfl rfl ?_
  refine j_aload_n (pc := 501) C 0 dL_law_501 rfl rfl ?_
  refine j_iload (pc := 502) C 4 dL_law_502 rfl ?_
  refine j_iconst (pc := 504) (v := 1) C dL_law_504 (by decide) ?_
  refine j_iadd (pc := 505) C dL_law_505 ?_
  refine j_sld (pc := 506) C hX hbl hbA hv1 dL_law_506 ?_
  refine j_aload_n (pc := 507) C 0 dL_law_507 rfl rfl ?_
  refine j_iload (pc := 508) C 4 dL_law_508 rfl ?_
  refine j_iconst (pc := 510) (v := 2) C dL_law_510 (by decide) ?_
  refine j_iadd (pc := 511) C dL_law_511 ?_
  refine j_sld (pc := 512) C hX hbl hbA hv2 dL_law_512 ?_
  refine j_aload_n (pc := 513) C 0 dL_law_513 rfl rfl ?_
  refine j_iload (pc := 514) C 4 dL_law_514 rfl ?_
  refine j_iconst (pc := 516) (v := 3) C dL_law_516 (by decide) ?_
  refine j_iadd (pc := 517) C dL_law_517 ?_
  refine j_sld (pc := 518) C hX hbl hbA hv3 dL_law_518 ?_
  obtain ⟨rw1, rmw1, w1gM, w1gnC, w1gbC, w1gnL, w1gbL, w1gnF, w1gbF, w1glf, w1gtr, w1glh, w1gov, w1mW, w1mC, w1mL, w1mR, w1mnC, w1mnL, w1mnR, w1mov, w1mwr, w1mwl, w1mft, w1mth, w1mpl, hw1, hmw1, hIw1⟩ := S_write j _ _ _ _ _ _ _ _ _ _ _ _ _ _ _ _ _ _ _ _ _ _ _ _ _ _ _ _ _ _ _ _ (xs (v4 + 1).toNatClampNeg) (xs (v4 + 2).toNatClampNeg) (xs (v4 + 3).toNatClampNeg) hjL hI
  refine j_callVi (pc := 519) (As := [.int (xs (v4 + 1).toNatClampNeg), .int (xs (v4 + 2).toNatClampNeg), .int (xs (v4 + 3).toNatClampNeg)]) (rest := []) (ws' := (lww a k am km qo ko w1gM w1gnC w1gbC w1gnL w1gbL w1gnF w1gbF gnQ gbQ gE gtp w1glf w1gtr w1glh w1gov mW mC mL mR mQ mE mtb mnC mnL mnR mov mnQ mwr mwl mft mth mpl out)) C K (ci := 2) (q0 := 0) rfl rfl rfl (ctX2_write l D a k _ _ _ _ _ _ _ _ _ _ _ _ _ _ _ _ _ _ _ _ _ _ _ _ _ _ _ _ _ _ hw1) gL_law_X2_write rfl rfl rfl hdyX2_write ⟨Nat.le_of_ble_eq_true rfl, Nat.le_of_ble_eq_true rfl⟩ (List.range 19) rfl (by decide) (jspA rfl rfl) [0, 1, 2, 3, 4, 5] rfl rfl (Nat.le_of_ble_eq_true rfl) dL_law_519 ⟨by show 30 + j ≤ 601024; omega, by show 33300 + 6 * j ≤ 7293033; omega⟩ ?_
  refine j_pop (pc := 522) C dL_law_522 rfl ?_
  refine j_aload_n (pc := 523) C 2 dL_law_523 rfl rfl ?_
  refine j_aload_n (pc := 524) C 0 dL_law_524 rfl rfl ?_
  refine j_iload (pc := 525) C 4 dL_law_525 rfl ?_
  refine j_iconst (pc := 527) (v := 1) C dL_law_527 (by decide) ?_
  refine j_iadd (pc := 528) C dL_law_528 ?_
  refine j_sld (pc := 529) C hX hbl hbA hv1 dL_law_529 ?_
  refine j_aload_n (pc := 530) C 0 dL_law_530 rfl rfl ?_
  refine j_iload (pc := 531) C 4 dL_law_531 rfl ?_
  refine j_iconst (pc := 533) (v := 2) C dL_law_533 (by decide) ?_
  refine j_iadd (pc := 534) C dL_law_534 ?_
  refine j_sld (pc := 535) C hX hbl hbA hv2 dL_law_535 ?_
  refine j_aload_n (pc := 536) C 0 dL_law_536 rfl rfl ?_
  refine j_iload (pc := 537) C 4 dL_law_537 rfl ?_
  refine j_iconst (pc := 539) (v := 3) C dL_law_539 (by decide) ?_
  refine j_iadd (pc := 540) C dL_law_540 ?_
  refine j_sld (pc := 541) C hX hbl hbA hv3 dL_law_541 ?_
  refine j_callVi (pc := 542) (As := [.int (xs (v4 + 1).toNatClampNeg), .int (xs (v4 + 2).toNatClampNeg), .int (xs (v4 + 3).toNatClampNeg)]) (rest := []) (ws' := (lww a k am km qo ko w1gM w1gnC w1gbC w1gnL w1gbL w1gnF w1gbF gnQ gbQ gE gtp w1glf w1gtr w1glh w1gov w1mW w1mC w1mL w1mR mQ mE mtb w1mnC w1mnL w1mnR w1mov mnQ w1mwr w1mwl w1mft w1mth w1mpl out)) C K (ci := 3) (q0 := 0) rfl rfl rfl (ctX3_write l D am km _ _ _ _ _ _ _ _ _ _ _ _ _ _ _ _ _ _ _ _ _ _ _ _ _ _ _ _ _ _ _ _ _ _ hmw1) gL_law_X3_write rfl rfl rfl hdyX3_write ⟨Nat.le_of_ble_eq_true rfl, Nat.le_of_ble_eq_true rfl⟩ ((List.range 7).map (fun i => 19 + i)) rfl (by decide) (jspB rfl rfl rfl) [6, 7, 8, 9, 10, 11] rfl rfl (Nat.le_of_ble_eq_true rfl) dL_law_542 ⟨by show 30 + j ≤ 601024; omega, by show 33300 + 6 * j ≤ 7293033; omega⟩ ?_
  refine j_pop (pc := 545) C dL_law_545 rfl ?_
  refine j_goto (pc := 546) (tgt := 946) C dL_law_546 (by decide) ?_
  refine j_iinc (pc := 946) (v := (v4 + 6)) (lv' := [(4, .int (v4 + 6)), (0, .ref b), (1, .ref (a 0)), (2, .ref (am 0)), (3, .ref qo)]) C 4 dL_law_946 rfl rfl (by decide) rfl ?_
  refine j_goto (pc := 949) (tgt := 23) C dL_law_949 (by decide) ?_
  refine j_widen (k := 30 + (j + 1)) (n := 33300 + 6 * (j + 1)) (by omega) (by omega) ?_
  exact j_lv [1, 2, 3, 4, 0] rfl (ih (j + 1) _ _ _ _ _ _ _ _ _ _ _ _ _ _ _ _ _ _ _ _ _ _ _ _ _ _ _ _ _ _ _ _ _ _ (by omega) hv6 hIw1)
set_option maxHeartbeats 4000000 in
set_option maxRecDepth 100000 in
theorem lawc_fault {p : Program} {l : Launch} (hlt : l.stackTraces = false) {e : Env} {s : State} {m : MethodId} {below : List Frame} {meth : Method} {c : Code} {D : va_G} {b L : Nat} {xs : Nat → Int32} (hL : L ≤ 3072) (C : jc p s m #[Value.ref b] c code 7 RL wsL_law (fun q : Nat => s.heap.size ≤ q)) (hr : meth.sig.returnType = ret) (hlk : meth.locks = false) (hX : va_X b L xs s s.heap) (hbl : b < s.heap.size) (hxw : xw s) (hxz : xz (fun q : Nat => s.heap.size ≤ q) s s.heap) {I : Nat → GS → MS → Prop} (S_fault : sm_fault I 512) (a : Nat → Nat) (k : Nat → ClassId) (am : Nat → Nat) (km : Nat → ClassId) (qo : Nat) (ko : ClassId) (K : jk D (ltt k km ko) s) (j : Nat) (hjL : j < 512) (hj6 : 6 * j + 6 ≤ L) (v4 : Int32) (hv : v4 = nI (6 * j)) (gM : Nat → Int32) (gnC : Int32) (gbC : Nat → Int32) (gnL : Int32) (gbL : Nat → Int32) (gnF : Int32) (gbF : Nat → Int32) (gnQ : Int32) (gbQ : Nat → Int32) (gE : Nat → Nat → Int32) (gtp : Int32) (glf : Int32) (gtr : Int32) (glh : Int32) (gov : Int32) (mW : Nat → Int32) (mC : Nat → Int32) (mL : Nat → Int32) (mR : Nat → Int32) (mQ : Nat → Int32) (mE : Nat → Int32) (mtb : Int32) (mnC : Int32) (mnL : Int32) (mnR : Int32) (mov : Int32) (mnQ : Int32) (mwr : Int32) (mwl : Int32) (mft : Int32) (mth : Int32) (mpl : Int32) (out : Nat → Int64) (hI : I j (gM, gnC, gbC, gnL, gbL, gnF, gbF, gnQ, gbQ, gE, gtp, glf, gtr, glh, gov) (mW, mC, mL, mR, mQ, mE, mtb, mnC, mnL, mnR, mov, mnQ, mwr, mwl, mft, mth, mpl))
    (ih : ∀ (j2 : Nat) (gM : Nat → Int32) (gnC : Int32) (gbC : Nat → Int32) (gnL : Int32) (gbL : Nat → Int32) (gnF : Int32) (gbF : Nat → Int32) (gnQ : Int32) (gbQ : Nat → Int32) (gE : Nat → Nat → Int32) (gtp : Int32) (glf : Int32) (gtr : Int32) (glh : Int32) (gov : Int32) (mW : Nat → Int32) (mC : Nat → Int32) (mL : Nat → Int32) (mR : Nat → Int32) (mQ : Nat → Int32) (mE : Nat → Int32) (mtb : Int32) (mnC : Int32) (mnL : Int32) (mnR : Int32) (mov : Int32) (mnQ : Int32) (mwr : Int32) (mwl : Int32) (mft : Int32) (mth : Int32) (mpl : Int32) (out : Nat → Int64) (v4 : Int32), j2 = j + 1 → v4 = nI (6 * j2) → I j2 (gM, gnC, gbC, gnL, gbL, gnF, gbF, gnQ, gbQ, gE, gtp, glf, gtr, glh, gov) (mW, mC, mL, mR, mQ, mE, mtb, mnC, mnL, mnR, mov, mnQ, mwr, mwl, mft, mth, mpl) → jw p l e room_1 s m #[Value.ref b] below meth c 7 D (fun q : Nat => s.heap.size ≤ q) (30 + j2) (33300 + 6 * j2) (lw_Z below #[Value.ref b] s) (lww a k am km qo ko gM gnC gbC gnL gbL gnF gbF gnQ gbQ gE gtp glf gtr glh gov mW mC mL mR mQ mE mtb mnC mnL mnR mov mnQ mwr mwl mft mth mpl out) [(0, .ref b), (1, .ref (a 0)), (2, .ref (am 0)), (3, .ref qo), (4, .int v4)] 23 []) :
    jw p l e room_1 s m #[Value.ref b] below meth c 7 D (fun q : Nat => s.heap.size ≤ q) (30 + j) (33300 + 6 * j) (lw_Z below #[Value.ref b] s) (lww a k am km qo ko gM gnC gbC gnL gbL gnF gbF gnQ gbQ gE gtp glf gtr glh gov mW mC mL mR mQ mE mtb mnC mnL mnR mov mnQ mwr mwl mft mth mpl out) [(0, .ref b), (1, .ref (a 0)), (2, .ref (am 0)), (3, .ref qo), (4, .int v4)] 549 [] := by
  have hbA : ¬ (fun q : Nat => s.heap.size ≤ q) b := Nat.not_le.mpr hbl
  have hv1 : vp_in (v4 + 1) L := by rw [hv]; exact lawin hj6 (by omega) (k := 1) rfl (by omega)
  have hv2 : vp_in (v4 + 2) L := by rw [hv]; exact lawin hj6 (by omega) (k := 2) rfl (by omega)
  have hv3 : vp_in (v4 + 3) L := by rw [hv]; exact lawin hj6 (by omega) (k := 3) rfl (by omega)
  have hv4 : vp_in (v4 + 4) L := by rw [hv]; exact lawin hj6 (by omega) (k := 4) rfl (by omega)
  have hv5 : vp_in (v4 + 5) L := by rw [hv]; exact lawin hj6 (by omega) (k := 5) rfl (by omega)
  have hv6 : v4 + 6 = nI (6 * (j + 1)) := by rw [hv]; exact lawsix j
  refine j_aload_n (pc := 549) C 1 dL_law_549 rfl rfl ?_
  obtain ⟨rw1, rmw1, w1mth, hw1, hmw1, hIw1⟩ := S_fault j _ _ _ _ _ _ _ _ _ _ _ _ _ _ _ _ _ _ _ _ _ _ _ _ _ _ _ _ _ _ _ _ hjL hI
  refine j_callVi (pc := 550) (As := []) (rest := []) (ws' := (lww a k am km qo ko gM gnC gbC gnL gbL gnF gbF gnQ gbQ gE gtp glf gtr glh gov mW mC mL mR mQ mE mtb mnC mnL mnR mov mnQ mwr mwl mft mth mpl out)) C K (ci := 2) (q0 := 0) rfl rfl rfl (ctX2_fault l D a k _ _ _ _ _ _ _ _ _ _ _ _ _ _ _ _ hw1) gL_law_X2_fault rfl rfl rfl hdyX2_fault ⟨Nat.le_of_ble_eq_true rfl, Nat.le_of_ble_eq_true rfl⟩ (List.range 19) rfl (by decide) (jspA rfl rfl) [0, 1, 2, 3, 4, 5] rfl rfl (Nat.le_of_ble_eq_true rfl) dL_law_550 ⟨by show 30 + j ≤ 601024; omega, by show 33300 + 6 * j ≤ 7293033; omega⟩ ?_
  refine j_pop (pc := 553) C dL_law_553 rfl ?_
  refine j_aload_n (pc := 554) C 2 dL_law_554 rfl rfl ?_
  refine j_callVi (pc := 555) (As := []) (rest := []) (ws' := (lww a k am km qo ko gM gnC gbC gnL gbL gnF gbF gnQ gbQ gE gtp glf gtr glh gov mW mC mL mR mQ mE mtb mnC mnL mnR mov mnQ mwr mwl mft w1mth mpl out)) C K (ci := 3) (q0 := 0) rfl rfl rfl (ctX3_fault l D am km _ _ _ _ _ _ _ _ _ _ _ _ _ _ _ _ _ _ _ hmw1) gL_law_X3_fault rfl rfl rfl hdyX3_fault ⟨Nat.le_of_ble_eq_true rfl, Nat.le_of_ble_eq_true rfl⟩ ((List.range 7).map (fun i => 19 + i)) rfl (by decide) (jspB rfl rfl rfl) [6, 7, 8, 9, 10, 11] rfl rfl (Nat.le_of_ble_eq_true rfl) dL_law_555 ⟨by show 30 + j ≤ 601024; omega, by show 33300 + 6 * j ≤ 7293033; omega⟩ ?_
  refine j_pop (pc := 558) C dL_law_558 rfl ?_
  refine j_goto (pc := 559) (tgt := 946) C dL_law_559 (by decide) ?_
  refine j_iinc (pc := 946) (v := (v4 + 6)) (lv' := [(4, .int (v4 + 6)), (0, .ref b), (1, .ref (a 0)), (2, .ref (am 0)), (3, .ref qo)]) C 4 dL_law_946 rfl rfl (by decide) rfl ?_
  refine j_goto (pc := 949) (tgt := 23) C dL_law_949 (by decide) ?_
  refine j_widen (k := 30 + (j + 1)) (n := 33300 + 6 * (j + 1)) (by omega) (by omega) ?_
  exact j_lv [1, 2, 3, 4, 0] rfl (ih (j + 1) _ _ _ _ _ _ _ _ _ _ _ _ _ _ _ _ _ _ _ _ _ _ _ _ _ _ _ _ _ _ _ _ _ _ (by omega) hv6 hIw1)
set_option maxHeartbeats 4000000 in
set_option maxRecDepth 100000 in
theorem lawc_ring {p : Program} {l : Launch} (hlt : l.stackTraces = false) {e : Env} {s : State} {m : MethodId} {below : List Frame} {meth : Method} {c : Code} {D : va_G} {b L : Nat} {xs : Nat → Int32} (hL : L ≤ 3072) (C : jc p s m #[Value.ref b] c code 7 RL wsL_law (fun q : Nat => s.heap.size ≤ q)) (hr : meth.sig.returnType = ret) (hlk : meth.locks = false) (hX : va_X b L xs s s.heap) (hbl : b < s.heap.size) (hxw : xw s) (hxz : xz (fun q : Nat => s.heap.size ≤ q) s s.heap) {I : Nat → GS → MS → Prop} (S_ring : sm_ring I 512) (a : Nat → Nat) (k : Nat → ClassId) (am : Nat → Nat) (km : Nat → ClassId) (qo : Nat) (ko : ClassId) (K : jk D (ltt k km ko) s) (j : Nat) (hjL : j < 512) (hj6 : 6 * j + 6 ≤ L) (v4 : Int32) (hv : v4 = nI (6 * j)) (gM : Nat → Int32) (gnC : Int32) (gbC : Nat → Int32) (gnL : Int32) (gbL : Nat → Int32) (gnF : Int32) (gbF : Nat → Int32) (gnQ : Int32) (gbQ : Nat → Int32) (gE : Nat → Nat → Int32) (gtp : Int32) (glf : Int32) (gtr : Int32) (glh : Int32) (gov : Int32) (mW : Nat → Int32) (mC : Nat → Int32) (mL : Nat → Int32) (mR : Nat → Int32) (mQ : Nat → Int32) (mE : Nat → Int32) (mtb : Int32) (mnC : Int32) (mnL : Int32) (mnR : Int32) (mov : Int32) (mnQ : Int32) (mwr : Int32) (mwl : Int32) (mft : Int32) (mth : Int32) (mpl : Int32) (out : Nat → Int64) (hI : I j (gM, gnC, gbC, gnL, gbL, gnF, gbF, gnQ, gbQ, gE, gtp, glf, gtr, glh, gov) (mW, mC, mL, mR, mQ, mE, mtb, mnC, mnL, mnR, mov, mnQ, mwr, mwl, mft, mth, mpl))
    (ih : ∀ (j2 : Nat) (gM : Nat → Int32) (gnC : Int32) (gbC : Nat → Int32) (gnL : Int32) (gbL : Nat → Int32) (gnF : Int32) (gbF : Nat → Int32) (gnQ : Int32) (gbQ : Nat → Int32) (gE : Nat → Nat → Int32) (gtp : Int32) (glf : Int32) (gtr : Int32) (glh : Int32) (gov : Int32) (mW : Nat → Int32) (mC : Nat → Int32) (mL : Nat → Int32) (mR : Nat → Int32) (mQ : Nat → Int32) (mE : Nat → Int32) (mtb : Int32) (mnC : Int32) (mnL : Int32) (mnR : Int32) (mov : Int32) (mnQ : Int32) (mwr : Int32) (mwl : Int32) (mft : Int32) (mth : Int32) (mpl : Int32) (out : Nat → Int64) (v4 : Int32), j2 = j + 1 → v4 = nI (6 * j2) → I j2 (gM, gnC, gbC, gnL, gbL, gnF, gbF, gnQ, gbQ, gE, gtp, glf, gtr, glh, gov) (mW, mC, mL, mR, mQ, mE, mtb, mnC, mnL, mnR, mov, mnQ, mwr, mwl, mft, mth, mpl) → jw p l e room_1 s m #[Value.ref b] below meth c 7 D (fun q : Nat => s.heap.size ≤ q) (30 + j2) (33300 + 6 * j2) (lw_Z below #[Value.ref b] s) (lww a k am km qo ko gM gnC gbC gnL gbL gnF gbF gnQ gbQ gE gtp glf gtr glh gov mW mC mL mR mQ mE mtb mnC mnL mnR mov mnQ mwr mwl mft mth mpl out) [(0, .ref b), (1, .ref (a 0)), (2, .ref (am 0)), (3, .ref qo), (4, .int v4)] 23 []) :
    jw p l e room_1 s m #[Value.ref b] below meth c 7 D (fun q : Nat => s.heap.size ≤ q) (30 + j) (33300 + 6 * j) (lw_Z below #[Value.ref b] s) (lww a k am km qo ko gM gnC gbC gnL gbL gnF gbF gnQ gbQ gE gtp glf gtr glh gov mW mC mL mR mQ mE mtb mnC mnL mnR mov mnQ mwr mwl mft mth mpl out) [(0, .ref b), (1, .ref (a 0)), (2, .ref (am 0)), (3, .ref qo), (4, .int v4)] 562 [] := by
  have hbA : ¬ (fun q : Nat => s.heap.size ≤ q) b := Nat.not_le.mpr hbl
  have hv1 : vp_in (v4 + 1) L := by rw [hv]; exact lawin hj6 (by omega) (k := 1) rfl (by omega)
  have hv2 : vp_in (v4 + 2) L := by rw [hv]; exact lawin hj6 (by omega) (k := 2) rfl (by omega)
  have hv3 : vp_in (v4 + 3) L := by rw [hv]; exact lawin hj6 (by omega) (k := 3) rfl (by omega)
  have hv4 : vp_in (v4 + 4) L := by rw [hv]; exact lawin hj6 (by omega) (k := 4) rfl (by omega)
  have hv5 : vp_in (v4 + 5) L := by rw [hv]; exact lawin hj6 (by omega) (k := 5) rfl (by omega)
  have hv6 : v4 + 6 = nI (6 * (j + 1)) := by rw [hv]; exact lawsix j
  refine j_aload_n (pc := 562) C 1 dL_law_562 rfl rfl ?_
  refine j_aload_n (pc := 563) C 0 dL_law_563 rfl rfl ?_
  refine j_iload (pc := 564) C 4 dL_law_564 rfl ?_
  refine j_iconst (pc := 566) (v := 1) C dL_law_566 (by decide) ?_
  refine j_iadd (pc := 567) C dL_law_567 ?_
  refine j_sld (pc := 568) C hX hbl hbA hv1 dL_law_568 ?_
  refine j_aload_n (pc := 569) C 0 dL_law_569 rfl rfl ?_
  refine j_iload (pc := 570) C 4 dL_law_570 rfl ?_
  refine j_iconst (pc := 572) (v := 2) C dL_law_572 (by decide) ?_
  refine j_iadd (pc := 573) C dL_law_573 ?_
  refine j_sld (pc := 574) C hX hbl hbA hv2 dL_law_574 ?_
  refine j_aload_n (pc := 575) C 0 dL_law_575 rfl rfl ?_
  refine j_iload (pc := 576) C 4 dL_law_576 rfl ?_
  refine j_iconst (pc := 578) (v := 3) C dL_law_578 (by decide) ?_
  refine j_iadd (pc := 579) C dL_law_579 ?_
  refine j_sld (pc := 580) C hX hbl hbA hv3 dL_law_580 ?_
  obtain ⟨rw1, rmw1, w1gE, w1mE, w1mth, hw1, hmw1, hIw1⟩ := S_ring j _ _ _ _ _ _ _ _ _ _ _ _ _ _ _ _ _ _ _ _ _ _ _ _ _ _ _ _ _ _ _ _ (xs (v4 + 1).toNatClampNeg) (xs (v4 + 2).toNatClampNeg) (xs (v4 + 3).toNatClampNeg) hjL hI
  refine j_callVi (pc := 581) (As := [.int (xs (v4 + 1).toNatClampNeg), .int (xs (v4 + 2).toNatClampNeg), .int (xs (v4 + 3).toNatClampNeg)]) (rest := []) (ws' := (lww a k am km qo ko gM gnC gbC gnL gbL gnF gbF gnQ gbQ w1gE gtp glf gtr glh gov mW mC mL mR mQ mE mtb mnC mnL mnR mov mnQ mwr mwl mft mth mpl out)) C K (ci := 2) (q0 := 0) rfl rfl rfl (ctX2_ring l D a k _ _ _ _ _ _ _ _ _ _ _ _ _ _ _ _ _ _ _ _ hw1) gL_law_X2_ring rfl rfl rfl hdyX2_ring ⟨Nat.le_of_ble_eq_true rfl, Nat.le_of_ble_eq_true rfl⟩ (List.range 19) rfl (by decide) (jspA rfl rfl) [0, 1, 2, 3, 4, 5] rfl rfl (Nat.le_of_ble_eq_true rfl) dL_law_581 ⟨by show 30 + j ≤ 601024; omega, by show 33300 + 6 * j ≤ 7293033; omega⟩ ?_
  refine j_pop (pc := 584) C dL_law_584 rfl ?_
  refine j_aload_n (pc := 585) C 2 dL_law_585 rfl rfl ?_
  refine j_aload_n (pc := 586) C 0 dL_law_586 rfl rfl ?_
  refine j_iload (pc := 587) C 4 dL_law_587 rfl ?_
  refine j_iconst (pc := 589) (v := 1) C dL_law_589 (by decide) ?_
  refine j_iadd (pc := 590) C dL_law_590 ?_
  refine j_sld (pc := 591) C hX hbl hbA hv1 dL_law_591 ?_
  refine j_aload_n (pc := 592) C 0 dL_law_592 rfl rfl ?_
  refine j_iload (pc := 593) C 4 dL_law_593 rfl ?_
  refine j_iconst (pc := 595) (v := 2) C dL_law_595 (by decide) ?_
  refine j_iadd (pc := 596) C dL_law_596 ?_
  refine j_sld (pc := 597) C hX hbl hbA hv2 dL_law_597 ?_
  refine j_aload_n (pc := 598) C 0 dL_law_598 rfl rfl ?_
  refine j_iload (pc := 599) C 4 dL_law_599 rfl ?_
  refine j_iconst (pc := 601) (v := 3) C dL_law_601 (by decide) ?_
  refine j_iadd (pc := 602) C dL_law_602 ?_
  refine j_sld (pc := 603) C hX hbl hbA hv3 dL_law_603 ?_
  refine j_callVi (pc := 604) (As := [.int (xs (v4 + 1).toNatClampNeg), .int (xs (v4 + 2).toNatClampNeg), .int (xs (v4 + 3).toNatClampNeg)]) (rest := []) (ws' := (lww a k am km qo ko gM gnC gbC gnL gbL gnF gbF gnQ gbQ w1gE gtp glf gtr glh gov mW mC mL mR mQ w1mE mtb mnC mnL mnR mov mnQ mwr mwl mft w1mth mpl out)) C K (ci := 3) (q0 := 0) rfl rfl rfl (ctX3_ring l D am km _ _ _ _ _ _ _ _ _ _ _ _ _ _ _ _ _ _ _ _ _ _ _ hmw1) gL_law_X3_ring rfl rfl rfl hdyX3_ring ⟨Nat.le_of_ble_eq_true rfl, Nat.le_of_ble_eq_true rfl⟩ ((List.range 7).map (fun i => 19 + i)) rfl (by decide) (jspB rfl rfl rfl) [6, 7, 8, 9, 10, 11] rfl rfl (Nat.le_of_ble_eq_true rfl) dL_law_604 ⟨by show 30 + j ≤ 601024; omega, by show 33300 + 6 * j ≤ 7293033; omega⟩ ?_
  refine j_pop (pc := 607) C dL_law_607 rfl ?_
  refine j_goto (pc := 608) (tgt := 946) C dL_law_608 (by decide) ?_
  refine j_iinc (pc := 946) (v := (v4 + 6)) (lv' := [(4, .int (v4 + 6)), (0, .ref b), (1, .ref (a 0)), (2, .ref (am 0)), (3, .ref qo)]) C 4 dL_law_946 rfl rfl (by decide) rfl ?_
  refine j_goto (pc := 949) (tgt := 23) C dL_law_949 (by decide) ?_
  refine j_widen (k := 30 + (j + 1)) (n := 33300 + 6 * (j + 1)) (by omega) (by omega) ?_
  exact j_lv [1, 2, 3, 4, 0] rfl (ih (j + 1) _ _ _ _ _ _ _ _ _ _ _ _ _ _ _ _ _ _ _ _ _ _ _ _ _ _ _ _ _ _ _ _ _ _ (by omega) hv6 hIw1)
set_option maxHeartbeats 4000000 in
set_option maxRecDepth 100000 in
theorem lawc_tail {p : Program} {l : Launch} (hlt : l.stackTraces = false) {e : Env} {s : State} {m : MethodId} {below : List Frame} {meth : Method} {c : Code} {D : va_G} {b L : Nat} {xs : Nat → Int32} (hL : L ≤ 3072) (C : jc p s m #[Value.ref b] c code 7 RL wsL_law (fun q : Nat => s.heap.size ≤ q)) (hr : meth.sig.returnType = ret) (hlk : meth.locks = false) (hX : va_X b L xs s s.heap) (hbl : b < s.heap.size) (hxw : xw s) (hxz : xz (fun q : Nat => s.heap.size ≤ q) s s.heap) {I : Nat → GS → MS → Prop} (S_tail : sm_tail I 512) (a : Nat → Nat) (k : Nat → ClassId) (am : Nat → Nat) (km : Nat → ClassId) (qo : Nat) (ko : ClassId) (K : jk D (ltt k km ko) s) (j : Nat) (hjL : j < 512) (hj6 : 6 * j + 6 ≤ L) (v4 : Int32) (hv : v4 = nI (6 * j)) (gM : Nat → Int32) (gnC : Int32) (gbC : Nat → Int32) (gnL : Int32) (gbL : Nat → Int32) (gnF : Int32) (gbF : Nat → Int32) (gnQ : Int32) (gbQ : Nat → Int32) (gE : Nat → Nat → Int32) (gtp : Int32) (glf : Int32) (gtr : Int32) (glh : Int32) (gov : Int32) (mW : Nat → Int32) (mC : Nat → Int32) (mL : Nat → Int32) (mR : Nat → Int32) (mQ : Nat → Int32) (mE : Nat → Int32) (mtb : Int32) (mnC : Int32) (mnL : Int32) (mnR : Int32) (mov : Int32) (mnQ : Int32) (mwr : Int32) (mwl : Int32) (mft : Int32) (mth : Int32) (mpl : Int32) (out : Nat → Int64) (hI : I j (gM, gnC, gbC, gnL, gbL, gnF, gbF, gnQ, gbQ, gE, gtp, glf, gtr, glh, gov) (mW, mC, mL, mR, mQ, mE, mtb, mnC, mnL, mnR, mov, mnQ, mwr, mwl, mft, mth, mpl))
    (ih : ∀ (j2 : Nat) (gM : Nat → Int32) (gnC : Int32) (gbC : Nat → Int32) (gnL : Int32) (gbL : Nat → Int32) (gnF : Int32) (gbF : Nat → Int32) (gnQ : Int32) (gbQ : Nat → Int32) (gE : Nat → Nat → Int32) (gtp : Int32) (glf : Int32) (gtr : Int32) (glh : Int32) (gov : Int32) (mW : Nat → Int32) (mC : Nat → Int32) (mL : Nat → Int32) (mR : Nat → Int32) (mQ : Nat → Int32) (mE : Nat → Int32) (mtb : Int32) (mnC : Int32) (mnL : Int32) (mnR : Int32) (mov : Int32) (mnQ : Int32) (mwr : Int32) (mwl : Int32) (mft : Int32) (mth : Int32) (mpl : Int32) (out : Nat → Int64) (v4 : Int32), j2 = j + 1 → v4 = nI (6 * j2) → I j2 (gM, gnC, gbC, gnL, gbL, gnF, gbF, gnQ, gbQ, gE, gtp, glf, gtr, glh, gov) (mW, mC, mL, mR, mQ, mE, mtb, mnC, mnL, mnR, mov, mnQ, mwr, mwl, mft, mth, mpl) → jw p l e room_1 s m #[Value.ref b] below meth c 7 D (fun q : Nat => s.heap.size ≤ q) (30 + j2) (33300 + 6 * j2) (lw_Z below #[Value.ref b] s) (lww a k am km qo ko gM gnC gbC gnL gbL gnF gbF gnQ gbQ gE gtp glf gtr glh gov mW mC mL mR mQ mE mtb mnC mnL mnR mov mnQ mwr mwl mft mth mpl out) [(0, .ref b), (1, .ref (a 0)), (2, .ref (am 0)), (3, .ref qo), (4, .int v4)] 23 []) :
    jw p l e room_1 s m #[Value.ref b] below meth c 7 D (fun q : Nat => s.heap.size ≤ q) (30 + j) (33300 + 6 * j) (lw_Z below #[Value.ref b] s) (lww a k am km qo ko gM gnC gbC gnL gbL gnF gbF gnQ gbQ gE gtp glf gtr glh gov mW mC mL mR mQ mE mtb mnC mnL mnR mov mnQ mwr mwl mft mth mpl out) [(0, .ref b), (1, .ref (a 0)), (2, .ref (am 0)), (3, .ref qo), (4, .int v4)] 611 [] := by
  have hbA : ¬ (fun q : Nat => s.heap.size ≤ q) b := Nat.not_le.mpr hbl
  have hv1 : vp_in (v4 + 1) L := by rw [hv]; exact lawin hj6 (by omega) (k := 1) rfl (by omega)
  have hv2 : vp_in (v4 + 2) L := by rw [hv]; exact lawin hj6 (by omega) (k := 2) rfl (by omega)
  have hv3 : vp_in (v4 + 3) L := by rw [hv]; exact lawin hj6 (by omega) (k := 3) rfl (by omega)
  have hv4 : vp_in (v4 + 4) L := by rw [hv]; exact lawin hj6 (by omega) (k := 4) rfl (by omega)
  have hv5 : vp_in (v4 + 5) L := by rw [hv]; exact lawin hj6 (by omega) (k := 5) rfl (by omega)
  have hv6 : v4 + 6 = nI (6 * (j + 1)) := by rw [hv]; exact lawsix j
  refine j_aload_n (pc := 611) C 1 dL_law_611 rfl rfl ?_
  refine j_aload_n (pc := 612) C 0 dL_law_612 rfl rfl ?_
  refine j_iload (pc := 613) C 4 dL_law_613 rfl ?_
  refine j_iconst (pc := 615) (v := 1) C dL_law_615 (by decide) ?_
  refine j_iadd (pc := 616) C dL_law_616 ?_
  refine j_sld (pc := 617) C hX hbl hbA hv1 dL_law_617 ?_
  refine j_aload_n (pc := 618) C 0 dL_law_618 rfl rfl ?_
  refine j_iload (pc := 619) C 4 dL_law_619 rfl ?_
  refine j_iconst (pc := 621) (v := 2) C dL_law_621 (by decide) ?_
  refine j_iadd (pc := 622) C dL_law_622 ?_
  refine j_sld (pc := 623) C hX hbl hbA hv2 dL_law_623 ?_
  obtain ⟨rw1, rmw1, w1gE, w1mE, w1mth, hw1, hmw1, hIw1⟩ := S_tail j _ _ _ _ _ _ _ _ _ _ _ _ _ _ _ _ _ _ _ _ _ _ _ _ _ _ _ _ _ _ _ _ (xs (v4 + 1).toNatClampNeg) (xs (v4 + 2).toNatClampNeg) hjL hI
  refine j_callVi (pc := 624) (As := [.int (xs (v4 + 1).toNatClampNeg), .int (xs (v4 + 2).toNatClampNeg)]) (rest := []) (ws' := (lww a k am km qo ko gM gnC gbC gnL gbL gnF gbF gnQ gbQ w1gE gtp glf gtr glh gov mW mC mL mR mQ mE mtb mnC mnL mnR mov mnQ mwr mwl mft mth mpl out)) C K (ci := 2) (q0 := 0) rfl rfl rfl (ctX2_tail l D a k _ _ _ _ _ _ _ _ _ _ _ _ _ _ _ _ _ _ _ hw1) gL_law_X2_tail rfl rfl rfl hdyX2_tail ⟨Nat.le_of_ble_eq_true rfl, Nat.le_of_ble_eq_true rfl⟩ (List.range 19) rfl (by decide) (jspA rfl rfl) [0, 1, 2, 3, 4, 5] rfl rfl (Nat.le_of_ble_eq_true rfl) dL_law_624 ⟨by show 30 + j ≤ 601024; omega, by show 33300 + 6 * j ≤ 7293033; omega⟩ ?_
  refine j_pop (pc := 627) C dL_law_627 rfl ?_
  refine j_aload_n (pc := 628) C 2 dL_law_628 rfl rfl ?_
  refine j_aload_n (pc := 629) C 0 dL_law_629 rfl rfl ?_
  refine j_iload (pc := 630) C 4 dL_law_630 rfl ?_
  refine j_iconst (pc := 632) (v := 1) C dL_law_632 (by decide) ?_
  refine j_iadd (pc := 633) C dL_law_633 ?_
  refine j_sld (pc := 634) C hX hbl hbA hv1 dL_law_634 ?_
  refine j_aload_n (pc := 635) C 0 dL_law_635 rfl rfl ?_
  refine j_iload (pc := 636) C 4 dL_law_636 rfl ?_
  refine j_iconst (pc := 638) (v := 2) C dL_law_638 (by decide) ?_
  refine j_iadd (pc := 639) C dL_law_639 ?_
  refine j_sld (pc := 640) C hX hbl hbA hv2 dL_law_640 ?_
  refine j_callVi (pc := 641) (As := [.int (xs (v4 + 1).toNatClampNeg), .int (xs (v4 + 2).toNatClampNeg)]) (rest := []) (ws' := (lww a k am km qo ko gM gnC gbC gnL gbL gnF gbF gnQ gbQ w1gE gtp glf gtr glh gov mW mC mL mR mQ w1mE mtb mnC mnL mnR mov mnQ mwr mwl mft w1mth mpl out)) C K (ci := 3) (q0 := 0) rfl rfl rfl (ctX3_tail l D am km _ _ _ _ _ _ _ _ _ _ _ _ _ _ _ _ _ _ _ _ _ _ hmw1) gL_law_X3_tail rfl rfl rfl hdyX3_tail ⟨Nat.le_of_ble_eq_true rfl, Nat.le_of_ble_eq_true rfl⟩ ((List.range 7).map (fun i => 19 + i)) rfl (by decide) (jspB rfl rfl rfl) [6, 7, 8, 9, 10, 11] rfl rfl (Nat.le_of_ble_eq_true rfl) dL_law_641 ⟨by show 30 + j ≤ 601024; omega, by show 33300 + 6 * j ≤ 7293033; omega⟩ ?_
  refine j_pop (pc := 644) C dL_law_644 rfl ?_
  refine j_goto (pc := 645) (tgt := 946) C dL_law_645 (by decide) ?_
  refine j_iinc (pc := 946) (v := (v4 + 6)) (lv' := [(4, .int (v4 + 6)), (0, .ref b), (1, .ref (a 0)), (2, .ref (am 0)), (3, .ref qo)]) C 4 dL_law_946 rfl rfl (by decide) rfl ?_
  refine j_goto (pc := 949) (tgt := 23) C dL_law_949 (by decide) ?_
  refine j_widen (k := 30 + (j + 1)) (n := 33300 + 6 * (j + 1)) (by omega) (by omega) ?_
  exact j_lv [1, 2, 3, 4, 0] rfl (ih (j + 1) _ _ _ _ _ _ _ _ _ _ _ _ _ _ _ _ _ _ _ _ _ _ _ _ _ _ _ _ _ _ _ _ _ _ (by omega) hv6 hIw1)
set_option maxHeartbeats 4000000 in
set_option maxRecDepth 100000 in
theorem lawc_step {p : Program} {l : Launch} (hlt : l.stackTraces = false) {e : Env} {s : State} {m : MethodId} {below : List Frame} {meth : Method} {c : Code} {D : va_G} {b L : Nat} {xs : Nat → Int32} (hL : L ≤ 3072) (C : jc p s m #[Value.ref b] c code 7 RL wsL_law (fun q : Nat => s.heap.size ≤ q)) (hr : meth.sig.returnType = ret) (hlk : meth.locks = false) (hX : va_X b L xs s s.heap) (hbl : b < s.heap.size) (hxw : xw s) (hxz : xz (fun q : Nat => s.heap.size ≤ q) s s.heap) {I : Nat → GS → MS → Prop} (S_step : sm_step I 512) (a : Nat → Nat) (k : Nat → ClassId) (am : Nat → Nat) (km : Nat → ClassId) (qo : Nat) (ko : ClassId) (K : jk D (ltt k km ko) s) (j : Nat) (hjL : j < 512) (hj6 : 6 * j + 6 ≤ L) (v4 : Int32) (hv : v4 = nI (6 * j)) (gM : Nat → Int32) (gnC : Int32) (gbC : Nat → Int32) (gnL : Int32) (gbL : Nat → Int32) (gnF : Int32) (gbF : Nat → Int32) (gnQ : Int32) (gbQ : Nat → Int32) (gE : Nat → Nat → Int32) (gtp : Int32) (glf : Int32) (gtr : Int32) (glh : Int32) (gov : Int32) (mW : Nat → Int32) (mC : Nat → Int32) (mL : Nat → Int32) (mR : Nat → Int32) (mQ : Nat → Int32) (mE : Nat → Int32) (mtb : Int32) (mnC : Int32) (mnL : Int32) (mnR : Int32) (mov : Int32) (mnQ : Int32) (mwr : Int32) (mwl : Int32) (mft : Int32) (mth : Int32) (mpl : Int32) (out : Nat → Int64) (hI : I j (gM, gnC, gbC, gnL, gbL, gnF, gbF, gnQ, gbQ, gE, gtp, glf, gtr, glh, gov) (mW, mC, mL, mR, mQ, mE, mtb, mnC, mnL, mnR, mov, mnQ, mwr, mwl, mft, mth, mpl))
    (ih : ∀ (j2 : Nat) (gM : Nat → Int32) (gnC : Int32) (gbC : Nat → Int32) (gnL : Int32) (gbL : Nat → Int32) (gnF : Int32) (gbF : Nat → Int32) (gnQ : Int32) (gbQ : Nat → Int32) (gE : Nat → Nat → Int32) (gtp : Int32) (glf : Int32) (gtr : Int32) (glh : Int32) (gov : Int32) (mW : Nat → Int32) (mC : Nat → Int32) (mL : Nat → Int32) (mR : Nat → Int32) (mQ : Nat → Int32) (mE : Nat → Int32) (mtb : Int32) (mnC : Int32) (mnL : Int32) (mnR : Int32) (mov : Int32) (mnQ : Int32) (mwr : Int32) (mwl : Int32) (mft : Int32) (mth : Int32) (mpl : Int32) (out : Nat → Int64) (v4 : Int32), j2 = j + 1 → v4 = nI (6 * j2) → I j2 (gM, gnC, gbC, gnL, gbL, gnF, gbF, gnQ, gbQ, gE, gtp, glf, gtr, glh, gov) (mW, mC, mL, mR, mQ, mE, mtb, mnC, mnL, mnR, mov, mnQ, mwr, mwl, mft, mth, mpl) → jw p l e room_1 s m #[Value.ref b] below meth c 7 D (fun q : Nat => s.heap.size ≤ q) (30 + j2) (33300 + 6 * j2) (lw_Z below #[Value.ref b] s) (lww a k am km qo ko gM gnC gbC gnL gbL gnF gbF gnQ gbQ gE gtp glf gtr glh gov mW mC mL mR mQ mE mtb mnC mnL mnR mov mnQ mwr mwl mft mth mpl out) [(0, .ref b), (1, .ref (a 0)), (2, .ref (am 0)), (3, .ref qo), (4, .int v4)] 23 []) :
    jw p l e room_1 s m #[Value.ref b] below meth c 7 D (fun q : Nat => s.heap.size ≤ q) (30 + j) (33300 + 6 * j) (lw_Z below #[Value.ref b] s) (lww a k am km qo ko gM gnC gbC gnL gbL gnF gbF gnQ gbQ gE gtp glf gtr glh gov mW mC mL mR mQ mE mtb mnC mnL mnR mov mnQ mwr mwl mft mth mpl out) [(0, .ref b), (1, .ref (a 0)), (2, .ref (am 0)), (3, .ref qo), (4, .int v4)] 648 [] := by
  have hbA : ¬ (fun q : Nat => s.heap.size ≤ q) b := Nat.not_le.mpr hbl
  have hv1 : vp_in (v4 + 1) L := by rw [hv]; exact lawin hj6 (by omega) (k := 1) rfl (by omega)
  have hv2 : vp_in (v4 + 2) L := by rw [hv]; exact lawin hj6 (by omega) (k := 2) rfl (by omega)
  have hv3 : vp_in (v4 + 3) L := by rw [hv]; exact lawin hj6 (by omega) (k := 3) rfl (by omega)
  have hv4 : vp_in (v4 + 4) L := by rw [hv]; exact lawin hj6 (by omega) (k := 4) rfl (by omega)
  have hv5 : vp_in (v4 + 5) L := by rw [hv]; exact lawin hj6 (by omega) (k := 5) rfl (by omega)
  have hv6 : v4 + 6 = nI (6 * (j + 1)) := by rw [hv]; exact lawsix j
  refine j_aload_n (pc := 648) C 1 dL_law_648 rfl rfl ?_
  refine j_aload_n (pc := 649) C 0 dL_law_649 rfl rfl ?_
  refine j_iload (pc := 650) C 4 dL_law_650 rfl ?_
  refine j_iconst (pc := 652) (v := 1) C dL_law_652 (by decide) ?_
  refine j_iadd (pc := 653) C dL_law_653 ?_
  refine j_sld (pc := 654) C hX hbl hbA hv1 dL_law_654 ?_
  refine j_aload_n (pc := 655) C 0 dL_law_655 rfl rfl ?_
  refine j_iload (pc := 656) C 4 dL_law_656 rfl ?_
  refine j_iconst (pc := 658) (v := 2) C dL_law_658 (by decide) ?_
  refine j_iadd (pc := 659) C dL_law_659 ?_
  refine j_sld (pc := 660) C hX hbl hbA hv2 dL_law_660 ?_
  obtain ⟨rw1, rmw1, w1gM, w1gnC, w1gbC, w1gnL, w1gbL, w1gnF, w1gbF, w1gE, w1glf, w1gtr, w1glh, w1gov, w1mW, w1mC, w1mL, w1mR, w1mE, w1mnC, w1mnL, w1mnR, w1mov, w1mwr, w1mwl, w1mft, w1mth, w1mpl, hw1, hmw1, hIw1⟩ := S_step j _ _ _ _ _ _ _ _ _ _ _ _ _ _ _ _ _ _ _ _ _ _ _ _ _ _ _ _ _ _ _ _ (xs (v4 + 1).toNatClampNeg) (xs (v4 + 2).toNatClampNeg) hjL hI
  refine j_callVi (pc := 661) (As := [.int (xs (v4 + 1).toNatClampNeg), .int (xs (v4 + 2).toNatClampNeg)]) (rest := []) (ws' := (lww a k am km qo ko w1gM w1gnC w1gbC w1gnL w1gbL w1gnF w1gbF gnQ gbQ w1gE gtp w1glf w1gtr w1glh w1gov mW mC mL mR mQ mE mtb mnC mnL mnR mov mnQ mwr mwl mft mth mpl out)) C K (ci := 2) (q0 := 0) rfl rfl rfl (ctX2_step l D a k _ _ _ _ _ _ _ _ _ _ _ _ _ _ _ _ _ _ _ _ _ _ _ _ _ _ _ _ _ _ hw1) gL_law_X2_step rfl rfl rfl hdyX2_step ⟨Nat.le_of_ble_eq_true rfl, Nat.le_of_ble_eq_true rfl⟩ (List.range 19) rfl (by decide) (jspA rfl rfl) [0, 1, 2, 3, 4, 5] rfl rfl (Nat.le_of_ble_eq_true rfl) dL_law_661 ⟨by show 30 + j ≤ 601024; omega, by show 33300 + 6 * j ≤ 7293033; omega⟩ ?_
  refine j_pop (pc := 664) C dL_law_664 rfl ?_
  refine j_aload_n (pc := 665) C 2 dL_law_665 rfl rfl ?_
  refine j_aload_n (pc := 666) C 0 dL_law_666 rfl rfl ?_
  refine j_iload (pc := 667) C 4 dL_law_667 rfl ?_
  refine j_iconst (pc := 669) (v := 1) C dL_law_669 (by decide) ?_
  refine j_iadd (pc := 670) C dL_law_670 ?_
  refine j_sld (pc := 671) C hX hbl hbA hv1 dL_law_671 ?_
  refine j_aload_n (pc := 672) C 0 dL_law_672 rfl rfl ?_
  refine j_iload (pc := 673) C 4 dL_law_673 rfl ?_
  refine j_iconst (pc := 675) (v := 2) C dL_law_675 (by decide) ?_
  refine j_iadd (pc := 676) C dL_law_676 ?_
  refine j_sld (pc := 677) C hX hbl hbA hv2 dL_law_677 ?_
  refine j_callVi (pc := 678) (As := [.int (xs (v4 + 1).toNatClampNeg), .int (xs (v4 + 2).toNatClampNeg)]) (rest := []) (ws' := (lww a k am km qo ko w1gM w1gnC w1gbC w1gnL w1gbL w1gnF w1gbF gnQ gbQ w1gE gtp w1glf w1gtr w1glh w1gov w1mW w1mC w1mL w1mR mQ w1mE mtb w1mnC w1mnL w1mnR w1mov mnQ w1mwr w1mwl w1mft w1mth w1mpl out)) C K (ci := 3) (q0 := 0) rfl rfl rfl (ctX3_step l D am km _ _ _ _ _ _ _ _ _ _ _ _ _ _ _ _ _ _ _ _ _ _ _ _ _ _ _ _ _ _ _ _ _ _ hmw1) gL_law_X3_step rfl rfl rfl hdyX3_step ⟨Nat.le_of_ble_eq_true rfl, Nat.le_of_ble_eq_true rfl⟩ ((List.range 7).map (fun i => 19 + i)) rfl (by decide) (jspB rfl rfl rfl) [6, 7, 8, 9, 10, 11] rfl rfl (Nat.le_of_ble_eq_true rfl) dL_law_678 ⟨by show 30 + j ≤ 601024; omega, by show 33300 + 6 * j ≤ 7293033; omega⟩ ?_
  refine j_pop (pc := 681) C dL_law_681 rfl ?_
  refine j_goto (pc := 682) (tgt := 946) C dL_law_682 (by decide) ?_
  refine j_iinc (pc := 946) (v := (v4 + 6)) (lv' := [(4, .int (v4 + 6)), (0, .ref b), (1, .ref (a 0)), (2, .ref (am 0)), (3, .ref qo)]) C 4 dL_law_946 rfl rfl (by decide) rfl ?_
  refine j_goto (pc := 949) (tgt := 23) C dL_law_949 (by decide) ?_
  refine j_widen (k := 30 + (j + 1)) (n := 33300 + 6 * (j + 1)) (by omega) (by omega) ?_
  exact j_lv [1, 2, 3, 4, 0] rfl (ih (j + 1) _ _ _ _ _ _ _ _ _ _ _ _ _ _ _ _ _ _ _ _ _ _ _ _ _ _ _ _ _ _ _ _ _ _ (by omega) hv6 hIw1)
set_option maxHeartbeats 4000000 in
set_option maxRecDepth 100000 in
theorem lawc_resume {p : Program} {l : Launch} (hlt : l.stackTraces = false) {e : Env} {s : State} {m : MethodId} {below : List Frame} {meth : Method} {c : Code} {D : va_G} {b L : Nat} {xs : Nat → Int32} (hL : L ≤ 3072) (C : jc p s m #[Value.ref b] c code 7 RL wsL_law (fun q : Nat => s.heap.size ≤ q)) (hr : meth.sig.returnType = ret) (hlk : meth.locks = false) (hX : va_X b L xs s s.heap) (hbl : b < s.heap.size) (hxw : xw s) (hxz : xz (fun q : Nat => s.heap.size ≤ q) s s.heap) {I : Nat → GS → MS → Prop} (S_resume : sm_resume I 512) (a : Nat → Nat) (k : Nat → ClassId) (am : Nat → Nat) (km : Nat → ClassId) (qo : Nat) (ko : ClassId) (K : jk D (ltt k km ko) s) (j : Nat) (hjL : j < 512) (hj6 : 6 * j + 6 ≤ L) (v4 : Int32) (hv : v4 = nI (6 * j)) (gM : Nat → Int32) (gnC : Int32) (gbC : Nat → Int32) (gnL : Int32) (gbL : Nat → Int32) (gnF : Int32) (gbF : Nat → Int32) (gnQ : Int32) (gbQ : Nat → Int32) (gE : Nat → Nat → Int32) (gtp : Int32) (glf : Int32) (gtr : Int32) (glh : Int32) (gov : Int32) (mW : Nat → Int32) (mC : Nat → Int32) (mL : Nat → Int32) (mR : Nat → Int32) (mQ : Nat → Int32) (mE : Nat → Int32) (mtb : Int32) (mnC : Int32) (mnL : Int32) (mnR : Int32) (mov : Int32) (mnQ : Int32) (mwr : Int32) (mwl : Int32) (mft : Int32) (mth : Int32) (mpl : Int32) (out : Nat → Int64) (hI : I j (gM, gnC, gbC, gnL, gbL, gnF, gbF, gnQ, gbQ, gE, gtp, glf, gtr, glh, gov) (mW, mC, mL, mR, mQ, mE, mtb, mnC, mnL, mnR, mov, mnQ, mwr, mwl, mft, mth, mpl))
    (ih : ∀ (j2 : Nat) (gM : Nat → Int32) (gnC : Int32) (gbC : Nat → Int32) (gnL : Int32) (gbL : Nat → Int32) (gnF : Int32) (gbF : Nat → Int32) (gnQ : Int32) (gbQ : Nat → Int32) (gE : Nat → Nat → Int32) (gtp : Int32) (glf : Int32) (gtr : Int32) (glh : Int32) (gov : Int32) (mW : Nat → Int32) (mC : Nat → Int32) (mL : Nat → Int32) (mR : Nat → Int32) (mQ : Nat → Int32) (mE : Nat → Int32) (mtb : Int32) (mnC : Int32) (mnL : Int32) (mnR : Int32) (mov : Int32) (mnQ : Int32) (mwr : Int32) (mwl : Int32) (mft : Int32) (mth : Int32) (mpl : Int32) (out : Nat → Int64) (v4 : Int32), j2 = j + 1 → v4 = nI (6 * j2) → I j2 (gM, gnC, gbC, gnL, gbL, gnF, gbF, gnQ, gbQ, gE, gtp, glf, gtr, glh, gov) (mW, mC, mL, mR, mQ, mE, mtb, mnC, mnL, mnR, mov, mnQ, mwr, mwl, mft, mth, mpl) → jw p l e room_1 s m #[Value.ref b] below meth c 7 D (fun q : Nat => s.heap.size ≤ q) (30 + j2) (33300 + 6 * j2) (lw_Z below #[Value.ref b] s) (lww a k am km qo ko gM gnC gbC gnL gbL gnF gbF gnQ gbQ gE gtp glf gtr glh gov mW mC mL mR mQ mE mtb mnC mnL mnR mov mnQ mwr mwl mft mth mpl out) [(0, .ref b), (1, .ref (a 0)), (2, .ref (am 0)), (3, .ref qo), (4, .int v4)] 23 []) :
    jw p l e room_1 s m #[Value.ref b] below meth c 7 D (fun q : Nat => s.heap.size ≤ q) (30 + j) (33300 + 6 * j) (lw_Z below #[Value.ref b] s) (lww a k am km qo ko gM gnC gbC gnL gbL gnF gbF gnQ gbQ gE gtp glf gtr glh gov mW mC mL mR mQ mE mtb mnC mnL mnR mov mnQ mwr mwl mft mth mpl out) [(0, .ref b), (1, .ref (a 0)), (2, .ref (am 0)), (3, .ref qo), (4, .int v4)] 685 [] := by
  have hbA : ¬ (fun q : Nat => s.heap.size ≤ q) b := Nat.not_le.mpr hbl
  have hv1 : vp_in (v4 + 1) L := by rw [hv]; exact lawin hj6 (by omega) (k := 1) rfl (by omega)
  have hv2 : vp_in (v4 + 2) L := by rw [hv]; exact lawin hj6 (by omega) (k := 2) rfl (by omega)
  have hv3 : vp_in (v4 + 3) L := by rw [hv]; exact lawin hj6 (by omega) (k := 3) rfl (by omega)
  have hv4 : vp_in (v4 + 4) L := by rw [hv]; exact lawin hj6 (by omega) (k := 4) rfl (by omega)
  have hv5 : vp_in (v4 + 5) L := by rw [hv]; exact lawin hj6 (by omega) (k := 5) rfl (by omega)
  have hv6 : v4 + 6 = nI (6 * (j + 1)) := by rw [hv]; exact lawsix j
  refine j_aload_n (pc := 685) C 1 dL_law_685 rfl rfl ?_
  refine j_aload_n (pc := 686) C 0 dL_law_686 rfl rfl ?_
  refine j_iload (pc := 687) C 4 dL_law_687 rfl ?_
  refine j_iconst (pc := 689) (v := 1) C dL_law_689 (by decide) ?_
  refine j_iadd (pc := 690) C dL_law_690 ?_
  refine j_sld (pc := 691) C hX hbl hbA hv1 dL_law_691 ?_
  obtain ⟨rw1, rmw1, w1gE, w1mE, w1mth, hw1, hmw1, hIw1⟩ := S_resume j _ _ _ _ _ _ _ _ _ _ _ _ _ _ _ _ _ _ _ _ _ _ _ _ _ _ _ _ _ _ _ _ (xs (v4 + 1).toNatClampNeg) hjL hI
  refine j_callVi (pc := 692) (As := [.int (xs (v4 + 1).toNatClampNeg)]) (rest := []) (ws' := (lww a k am km qo ko gM gnC gbC gnL gbL gnF gbF gnQ gbQ w1gE gtp glf gtr glh gov mW mC mL mR mQ mE mtb mnC mnL mnR mov mnQ mwr mwl mft mth mpl out)) C K (ci := 2) (q0 := 0) rfl rfl rfl (ctX2_resume l D a k _ _ _ _ _ _ _ _ _ _ _ _ _ _ _ _ _ _ hw1) gL_law_X2_resume rfl rfl rfl hdyX2_resume ⟨Nat.le_of_ble_eq_true rfl, Nat.le_of_ble_eq_true rfl⟩ (List.range 19) rfl (by decide) (jspA rfl rfl) [0, 1, 2, 3, 4, 5] rfl rfl (Nat.le_of_ble_eq_true rfl) dL_law_692 ⟨by show 30 + j ≤ 601024; omega, by show 33300 + 6 * j ≤ 7293033; omega⟩ ?_
  refine j_pop (pc := 695) C dL_law_695 rfl ?_
  refine j_aload_n (pc := 696) C 2 dL_law_696 rfl rfl ?_
  refine j_aload_n (pc := 697) C 0 dL_law_697 rfl rfl ?_
  refine j_iload (pc := 698) C 4 dL_law_698 rfl ?_
  refine j_iconst (pc := 700) (v := 1) C dL_law_700 (by decide) ?_
  refine j_iadd (pc := 701) C dL_law_701 ?_
  refine j_sld (pc := 702) C hX hbl hbA hv1 dL_law_702 ?_
  refine j_callVi (pc := 703) (As := [.int (xs (v4 + 1).toNatClampNeg)]) (rest := []) (ws' := (lww a k am km qo ko gM gnC gbC gnL gbL gnF gbF gnQ gbQ w1gE gtp glf gtr glh gov mW mC mL mR mQ w1mE mtb mnC mnL mnR mov mnQ mwr mwl mft w1mth mpl out)) C K (ci := 3) (q0 := 0) rfl rfl rfl (ctX3_resume l D am km _ _ _ _ _ _ _ _ _ _ _ _ _ _ _ _ _ _ _ _ _ hmw1) gL_law_X3_resume rfl rfl rfl hdyX3_resume ⟨Nat.le_of_ble_eq_true rfl, Nat.le_of_ble_eq_true rfl⟩ ((List.range 7).map (fun i => 19 + i)) rfl (by decide) (jspB rfl rfl rfl) [6, 7, 8, 9, 10, 11] rfl rfl (Nat.le_of_ble_eq_true rfl) dL_law_703 ⟨by show 30 + j ≤ 601024; omega, by show 33300 + 6 * j ≤ 7293033; omega⟩ ?_
  refine j_pop (pc := 706) C dL_law_706 rfl ?_
  refine j_goto (pc := 707) (tgt := 946) C dL_law_707 (by decide) ?_
  refine j_iinc (pc := 946) (v := (v4 + 6)) (lv' := [(4, .int (v4 + 6)), (0, .ref b), (1, .ref (a 0)), (2, .ref (am 0)), (3, .ref qo)]) C 4 dL_law_946 rfl rfl (by decide) rfl ?_
  refine j_goto (pc := 949) (tgt := 23) C dL_law_949 (by decide) ?_
  refine j_widen (k := 30 + (j + 1)) (n := 33300 + 6 * (j + 1)) (by omega) (by omega) ?_
  exact j_lv [1, 2, 3, 4, 0] rfl (ih (j + 1) _ _ _ _ _ _ _ _ _ _ _ _ _ _ _ _ _ _ _ _ _ _ _ _ _ _ _ _ _ _ _ _ _ _ (by omega) hv6 hIw1)
set_option maxHeartbeats 4000000 in
set_option maxRecDepth 100000 in
theorem lawc_engine {p : Program} {l : Launch} (hlt : l.stackTraces = false) {e : Env} {s : State} {m : MethodId} {below : List Frame} {meth : Method} {c : Code} {D : va_G} {b L : Nat} {xs : Nat → Int32} (hL : L ≤ 3072) (C : jc p s m #[Value.ref b] c code 7 RL wsL_law (fun q : Nat => s.heap.size ≤ q)) (hr : meth.sig.returnType = ret) (hlk : meth.locks = false) (hX : va_X b L xs s s.heap) (hbl : b < s.heap.size) (hxw : xw s) (hxz : xz (fun q : Nat => s.heap.size ≤ q) s s.heap) {I : Nat → GS → MS → Prop} (S_engine : sm_engine I 512) (a : Nat → Nat) (k : Nat → ClassId) (am : Nat → Nat) (km : Nat → ClassId) (qo : Nat) (ko : ClassId) (K : jk D (ltt k km ko) s) (j : Nat) (hjL : j < 512) (hj6 : 6 * j + 6 ≤ L) (v4 : Int32) (hv : v4 = nI (6 * j)) (gM : Nat → Int32) (gnC : Int32) (gbC : Nat → Int32) (gnL : Int32) (gbL : Nat → Int32) (gnF : Int32) (gbF : Nat → Int32) (gnQ : Int32) (gbQ : Nat → Int32) (gE : Nat → Nat → Int32) (gtp : Int32) (glf : Int32) (gtr : Int32) (glh : Int32) (gov : Int32) (mW : Nat → Int32) (mC : Nat → Int32) (mL : Nat → Int32) (mR : Nat → Int32) (mQ : Nat → Int32) (mE : Nat → Int32) (mtb : Int32) (mnC : Int32) (mnL : Int32) (mnR : Int32) (mov : Int32) (mnQ : Int32) (mwr : Int32) (mwl : Int32) (mft : Int32) (mth : Int32) (mpl : Int32) (out : Nat → Int64) (hI : I j (gM, gnC, gbC, gnL, gbL, gnF, gbF, gnQ, gbQ, gE, gtp, glf, gtr, glh, gov) (mW, mC, mL, mR, mQ, mE, mtb, mnC, mnL, mnR, mov, mnQ, mwr, mwl, mft, mth, mpl))
    (ih : ∀ (j2 : Nat) (gM : Nat → Int32) (gnC : Int32) (gbC : Nat → Int32) (gnL : Int32) (gbL : Nat → Int32) (gnF : Int32) (gbF : Nat → Int32) (gnQ : Int32) (gbQ : Nat → Int32) (gE : Nat → Nat → Int32) (gtp : Int32) (glf : Int32) (gtr : Int32) (glh : Int32) (gov : Int32) (mW : Nat → Int32) (mC : Nat → Int32) (mL : Nat → Int32) (mR : Nat → Int32) (mQ : Nat → Int32) (mE : Nat → Int32) (mtb : Int32) (mnC : Int32) (mnL : Int32) (mnR : Int32) (mov : Int32) (mnQ : Int32) (mwr : Int32) (mwl : Int32) (mft : Int32) (mth : Int32) (mpl : Int32) (out : Nat → Int64) (v4 : Int32), j2 = j + 1 → v4 = nI (6 * j2) → I j2 (gM, gnC, gbC, gnL, gbL, gnF, gbF, gnQ, gbQ, gE, gtp, glf, gtr, glh, gov) (mW, mC, mL, mR, mQ, mE, mtb, mnC, mnL, mnR, mov, mnQ, mwr, mwl, mft, mth, mpl) → jw p l e room_1 s m #[Value.ref b] below meth c 7 D (fun q : Nat => s.heap.size ≤ q) (30 + j2) (33300 + 6 * j2) (lw_Z below #[Value.ref b] s) (lww a k am km qo ko gM gnC gbC gnL gbL gnF gbF gnQ gbQ gE gtp glf gtr glh gov mW mC mL mR mQ mE mtb mnC mnL mnR mov mnQ mwr mwl mft mth mpl out) [(0, .ref b), (1, .ref (a 0)), (2, .ref (am 0)), (3, .ref qo), (4, .int v4)] 23 []) :
    jw p l e room_1 s m #[Value.ref b] below meth c 7 D (fun q : Nat => s.heap.size ≤ q) (30 + j) (33300 + 6 * j) (lw_Z below #[Value.ref b] s) (lww a k am km qo ko gM gnC gbC gnL gbL gnF gbF gnQ gbQ gE gtp glf gtr glh gov mW mC mL mR mQ mE mtb mnC mnL mnR mov mnQ mwr mwl mft mth mpl out) [(0, .ref b), (1, .ref (a 0)), (2, .ref (am 0)), (3, .ref qo), (4, .int v4)] 710 [] := by
  have hbA : ¬ (fun q : Nat => s.heap.size ≤ q) b := Nat.not_le.mpr hbl
  have hv1 : vp_in (v4 + 1) L := by rw [hv]; exact lawin hj6 (by omega) (k := 1) rfl (by omega)
  have hv2 : vp_in (v4 + 2) L := by rw [hv]; exact lawin hj6 (by omega) (k := 2) rfl (by omega)
  have hv3 : vp_in (v4 + 3) L := by rw [hv]; exact lawin hj6 (by omega) (k := 3) rfl (by omega)
  have hv4 : vp_in (v4 + 4) L := by rw [hv]; exact lawin hj6 (by omega) (k := 4) rfl (by omega)
  have hv5 : vp_in (v4 + 5) L := by rw [hv]; exact lawin hj6 (by omega) (k := 5) rfl (by omega)
  have hv6 : v4 + 6 = nI (6 * (j + 1)) := by rw [hv]; exact lawsix j
  refine j_aload_n (pc := 710) C 1 dL_law_710 rfl rfl ?_
  refine j_aload_n (pc := 711) C 0 dL_law_711 rfl rfl ?_
  refine j_iload (pc := 712) C 4 dL_law_712 rfl ?_
  refine j_iconst (pc := 714) (v := 1) C dL_law_714 (by decide) ?_
  refine j_iadd (pc := 715) C dL_law_715 ?_
  refine j_sld (pc := 716) C hX hbl hbA hv1 dL_law_716 ?_
  refine j_aload_n (pc := 717) C 0 dL_law_717 rfl rfl ?_
  refine j_iload (pc := 718) C 4 dL_law_718 rfl ?_
  refine j_iconst (pc := 720) (v := 2) C dL_law_720 (by decide) ?_
  refine j_iadd (pc := 721) C dL_law_721 ?_
  refine j_sld (pc := 722) C hX hbl hbA hv2 dL_law_722 ?_
  obtain ⟨rw1, rmw1, w1mth, hw1, hmw1, hIw1⟩ := S_engine j _ _ _ _ _ _ _ _ _ _ _ _ _ _ _ _ _ _ _ _ _ _ _ _ _ _ _ _ _ _ _ _ (xs (v4 + 1).toNatClampNeg) (xs (v4 + 2).toNatClampNeg) hjL hI
  refine j_callVi (pc := 723) (As := [.int (xs (v4 + 1).toNatClampNeg), .int (xs (v4 + 2).toNatClampNeg)]) (rest := []) (ws' := (lww a k am km qo ko gM gnC gbC gnL gbL gnF gbF gnQ gbQ gE gtp glf gtr glh gov mW mC mL mR mQ mE mtb mnC mnL mnR mov mnQ mwr mwl mft mth mpl out)) C K (ci := 2) (q0 := 0) rfl rfl rfl (ctX2_engine l D a k _ _ _ _ _ _ _ _ _ _ _ _ _ _ _ _ _ _ hw1) gL_law_X2_engine rfl rfl rfl hdyX2_engine ⟨Nat.le_of_ble_eq_true rfl, Nat.le_of_ble_eq_true rfl⟩ (List.range 19) rfl (by decide) (jspA rfl rfl) [0, 1, 2, 3, 4, 5] rfl rfl (Nat.le_of_ble_eq_true rfl) dL_law_723 ⟨by show 30 + j ≤ 601024; omega, by show 33300 + 6 * j ≤ 7293033; omega⟩ ?_
  refine j_pop (pc := 726) C dL_law_726 rfl ?_
  refine j_aload_n (pc := 727) C 2 dL_law_727 rfl rfl ?_
  refine j_aload_n (pc := 728) C 0 dL_law_728 rfl rfl ?_
  refine j_iload (pc := 729) C 4 dL_law_729 rfl ?_
  refine j_iconst (pc := 731) (v := 1) C dL_law_731 (by decide) ?_
  refine j_iadd (pc := 732) C dL_law_732 ?_
  refine j_sld (pc := 733) C hX hbl hbA hv1 dL_law_733 ?_
  refine j_aload_n (pc := 734) C 0 dL_law_734 rfl rfl ?_
  refine j_iload (pc := 735) C 4 dL_law_735 rfl ?_
  refine j_iconst (pc := 737) (v := 2) C dL_law_737 (by decide) ?_
  refine j_iadd (pc := 738) C dL_law_738 ?_
  refine j_sld (pc := 739) C hX hbl hbA hv2 dL_law_739 ?_
  refine j_callVi (pc := 740) (As := [.int (xs (v4 + 1).toNatClampNeg), .int (xs (v4 + 2).toNatClampNeg)]) (rest := []) (ws' := (lww a k am km qo ko gM gnC gbC gnL gbL gnF gbF gnQ gbQ gE gtp glf gtr glh gov mW mC mL mR mQ mE mtb mnC mnL mnR mov mnQ mwr mwl mft w1mth mpl out)) C K (ci := 3) (q0 := 0) rfl rfl rfl (ctX3_engine l D am km _ _ _ _ _ _ _ _ _ _ _ _ _ _ _ _ _ _ _ _ _ hmw1) gL_law_X3_engine rfl rfl rfl hdyX3_engine ⟨Nat.le_of_ble_eq_true rfl, Nat.le_of_ble_eq_true rfl⟩ ((List.range 7).map (fun i => 19 + i)) rfl (by decide) (jspB rfl rfl rfl) [6, 7, 8, 9, 10, 11] rfl rfl (Nat.le_of_ble_eq_true rfl) dL_law_740 ⟨by show 30 + j ≤ 601024; omega, by show 33300 + 6 * j ≤ 7293033; omega⟩ ?_
  refine j_pop (pc := 743) C dL_law_743 rfl ?_
  refine j_goto (pc := 744) (tgt := 946) C dL_law_744 (by decide) ?_
  refine j_iinc (pc := 946) (v := (v4 + 6)) (lv' := [(4, .int (v4 + 6)), (0, .ref b), (1, .ref (a 0)), (2, .ref (am 0)), (3, .ref qo)]) C 4 dL_law_946 rfl rfl (by decide) rfl ?_
  refine j_goto (pc := 949) (tgt := 23) C dL_law_949 (by decide) ?_
  refine j_widen (k := 30 + (j + 1)) (n := 33300 + 6 * (j + 1)) (by omega) (by omega) ?_
  exact j_lv [1, 2, 3, 4, 0] rfl (ih (j + 1) _ _ _ _ _ _ _ _ _ _ _ _ _ _ _ _ _ _ _ _ _ _ _ _ _ _ _ _ _ _ _ _ _ _ (by omega) hv6 hIw1)
set_option maxHeartbeats 4000000 in
set_option maxRecDepth 100000 in
theorem lawc_command {p : Program} {l : Launch} (hlt : l.stackTraces = false) {e : Env} {s : State} {m : MethodId} {below : List Frame} {meth : Method} {c : Code} {D : va_G} {b L : Nat} {xs : Nat → Int32} (hL : L ≤ 3072) (C : jc p s m #[Value.ref b] c code 7 RL wsL_law (fun q : Nat => s.heap.size ≤ q)) (hr : meth.sig.returnType = ret) (hlk : meth.locks = false) (hX : va_X b L xs s s.heap) (hbl : b < s.heap.size) (hxw : xw s) (hxz : xz (fun q : Nat => s.heap.size ≤ q) s s.heap) {I : Nat → GS → MS → Prop} (S_command : sm_command I 512) (a : Nat → Nat) (k : Nat → ClassId) (am : Nat → Nat) (km : Nat → ClassId) (qo : Nat) (ko : ClassId) (K : jk D (ltt k km ko) s) (j : Nat) (hjL : j < 512) (hj6 : 6 * j + 6 ≤ L) (v4 : Int32) (hv : v4 = nI (6 * j)) (gM : Nat → Int32) (gnC : Int32) (gbC : Nat → Int32) (gnL : Int32) (gbL : Nat → Int32) (gnF : Int32) (gbF : Nat → Int32) (gnQ : Int32) (gbQ : Nat → Int32) (gE : Nat → Nat → Int32) (gtp : Int32) (glf : Int32) (gtr : Int32) (glh : Int32) (gov : Int32) (mW : Nat → Int32) (mC : Nat → Int32) (mL : Nat → Int32) (mR : Nat → Int32) (mQ : Nat → Int32) (mE : Nat → Int32) (mtb : Int32) (mnC : Int32) (mnL : Int32) (mnR : Int32) (mov : Int32) (mnQ : Int32) (mwr : Int32) (mwl : Int32) (mft : Int32) (mth : Int32) (mpl : Int32) (out : Nat → Int64) (hI : I j (gM, gnC, gbC, gnL, gbL, gnF, gbF, gnQ, gbQ, gE, gtp, glf, gtr, glh, gov) (mW, mC, mL, mR, mQ, mE, mtb, mnC, mnL, mnR, mov, mnQ, mwr, mwl, mft, mth, mpl))
    (ih : ∀ (j2 : Nat) (gM : Nat → Int32) (gnC : Int32) (gbC : Nat → Int32) (gnL : Int32) (gbL : Nat → Int32) (gnF : Int32) (gbF : Nat → Int32) (gnQ : Int32) (gbQ : Nat → Int32) (gE : Nat → Nat → Int32) (gtp : Int32) (glf : Int32) (gtr : Int32) (glh : Int32) (gov : Int32) (mW : Nat → Int32) (mC : Nat → Int32) (mL : Nat → Int32) (mR : Nat → Int32) (mQ : Nat → Int32) (mE : Nat → Int32) (mtb : Int32) (mnC : Int32) (mnL : Int32) (mnR : Int32) (mov : Int32) (mnQ : Int32) (mwr : Int32) (mwl : Int32) (mft : Int32) (mth : Int32) (mpl : Int32) (out : Nat → Int64) (v4 : Int32), j2 = j + 1 → v4 = nI (6 * j2) → I j2 (gM, gnC, gbC, gnL, gbL, gnF, gbF, gnQ, gbQ, gE, gtp, glf, gtr, glh, gov) (mW, mC, mL, mR, mQ, mE, mtb, mnC, mnL, mnR, mov, mnQ, mwr, mwl, mft, mth, mpl) → jw p l e room_1 s m #[Value.ref b] below meth c 7 D (fun q : Nat => s.heap.size ≤ q) (30 + j2) (33300 + 6 * j2) (lw_Z below #[Value.ref b] s) (lww a k am km qo ko gM gnC gbC gnL gbL gnF gbF gnQ gbQ gE gtp glf gtr glh gov mW mC mL mR mQ mE mtb mnC mnL mnR mov mnQ mwr mwl mft mth mpl out) [(0, .ref b), (1, .ref (a 0)), (2, .ref (am 0)), (3, .ref qo), (4, .int v4)] 23 []) :
    jw p l e room_1 s m #[Value.ref b] below meth c 7 D (fun q : Nat => s.heap.size ≤ q) (30 + j) (33300 + 6 * j) (lw_Z below #[Value.ref b] s) (lww a k am km qo ko gM gnC gbC gnL gbL gnF gbF gnQ gbQ gE gtp glf gtr glh gov mW mC mL mR mQ mE mtb mnC mnL mnR mov mnQ mwr mwl mft mth mpl out) [(0, .ref b), (1, .ref (a 0)), (2, .ref (am 0)), (3, .ref qo), (4, .int v4)] 747 [] := by
  have hbA : ¬ (fun q : Nat => s.heap.size ≤ q) b := Nat.not_le.mpr hbl
  have hv1 : vp_in (v4 + 1) L := by rw [hv]; exact lawin hj6 (by omega) (k := 1) rfl (by omega)
  have hv2 : vp_in (v4 + 2) L := by rw [hv]; exact lawin hj6 (by omega) (k := 2) rfl (by omega)
  have hv3 : vp_in (v4 + 3) L := by rw [hv]; exact lawin hj6 (by omega) (k := 3) rfl (by omega)
  have hv4 : vp_in (v4 + 4) L := by rw [hv]; exact lawin hj6 (by omega) (k := 4) rfl (by omega)
  have hv5 : vp_in (v4 + 5) L := by rw [hv]; exact lawin hj6 (by omega) (k := 5) rfl (by omega)
  have hv6 : v4 + 6 = nI (6 * (j + 1)) := by rw [hv]; exact lawsix j
  refine j_aload_n (pc := 747) C 1 dL_law_747 rfl rfl ?_
  refine j_aload_n (pc := 748) C 0 dL_law_748 rfl rfl ?_
  refine j_iload (pc := 749) C 4 dL_law_749 rfl ?_
  refine j_iconst (pc := 751) (v := 1) C dL_law_751 (by decide) ?_
  refine j_iadd (pc := 752) C dL_law_752 ?_
  refine j_sld (pc := 753) C hX hbl hbA hv1 dL_law_753 ?_
  refine j_aload_n (pc := 754) C 0 dL_law_754 rfl rfl ?_
  refine j_iload (pc := 755) C 4 dL_law_755 rfl ?_
  refine j_iconst (pc := 757) (v := 2) C dL_law_757 (by decide) ?_
  refine j_iadd (pc := 758) C dL_law_758 ?_
  refine j_sld (pc := 759) C hX hbl hbA hv2 dL_law_759 ?_
  refine j_aload_n (pc := 760) C 0 dL_law_760 rfl rfl ?_
  refine j_iload (pc := 761) C 4 dL_law_761 rfl ?_
  refine j_iconst (pc := 763) (v := 3) C dL_law_763 (by decide) ?_
  refine j_iadd (pc := 764) C dL_law_764 ?_
  refine j_sld (pc := 765) C hX hbl hbA hv3 dL_law_765 ?_
  obtain ⟨rw1, rmw1, w1gnQ, w1gbQ, w1mQ, w1mnQ, w1mth, hw1, hmw1, hIw1⟩ := S_command j _ _ _ _ _ _ _ _ _ _ _ _ _ _ _ _ _ _ _ _ _ _ _ _ _ _ _ _ _ _ _ _ (xs (v4 + 1).toNatClampNeg) (xs (v4 + 2).toNatClampNeg) (xs (v4 + 3).toNatClampNeg) hjL hI
  refine j_callVi (pc := 766) (As := [.int (xs (v4 + 1).toNatClampNeg), .int (xs (v4 + 2).toNatClampNeg), .int (xs (v4 + 3).toNatClampNeg)]) (rest := []) (ws' := (lww a k am km qo ko gM gnC gbC gnL gbL gnF gbF w1gnQ w1gbQ gE gtp glf gtr glh gov mW mC mL mR mQ mE mtb mnC mnL mnR mov mnQ mwr mwl mft mth mpl out)) C K (ci := 2) (q0 := 0) rfl rfl rfl (ctX2_command l D a k _ _ _ _ _ _ _ _ _ _ _ _ _ _ _ _ _ _ _ _ _ hw1) gL_law_X2_command rfl rfl rfl hdyX2_command ⟨Nat.le_of_ble_eq_true rfl, Nat.le_of_ble_eq_true rfl⟩ (List.range 19) rfl (by decide) (jspA rfl rfl) [0, 1, 2, 3, 4, 5] rfl rfl (Nat.le_of_ble_eq_true rfl) dL_law_766 ⟨by show 30 + j ≤ 601024; omega, by show 33300 + 6 * j ≤ 7293033; omega⟩ ?_
  refine j_pop (pc := 769) C dL_law_769 rfl ?_
  refine j_aload_n (pc := 770) C 2 dL_law_770 rfl rfl ?_
  refine j_aload_n (pc := 771) C 0 dL_law_771 rfl rfl ?_
  refine j_iload (pc := 772) C 4 dL_law_772 rfl ?_
  refine j_iconst (pc := 774) (v := 1) C dL_law_774 (by decide) ?_
  refine j_iadd (pc := 775) C dL_law_775 ?_
  refine j_sld (pc := 776) C hX hbl hbA hv1 dL_law_776 ?_
  refine j_aload_n (pc := 777) C 0 dL_law_777 rfl rfl ?_
  refine j_iload (pc := 778) C 4 dL_law_778 rfl ?_
  refine j_iconst (pc := 780) (v := 2) C dL_law_780 (by decide) ?_
  refine j_iadd (pc := 781) C dL_law_781 ?_
  refine j_sld (pc := 782) C hX hbl hbA hv2 dL_law_782 ?_
  refine j_aload_n (pc := 783) C 0 dL_law_783 rfl rfl ?_
  refine j_iload (pc := 784) C 4 dL_law_784 rfl ?_
  refine j_iconst (pc := 786) (v := 3) C dL_law_786 (by decide) ?_
  refine j_iadd (pc := 787) C dL_law_787 ?_
  refine j_sld (pc := 788) C hX hbl hbA hv3 dL_law_788 ?_
  refine j_callVi (pc := 789) (As := [.int (xs (v4 + 1).toNatClampNeg), .int (xs (v4 + 2).toNatClampNeg), .int (xs (v4 + 3).toNatClampNeg)]) (rest := []) (ws' := (lww a k am km qo ko gM gnC gbC gnL gbL gnF gbF w1gnQ w1gbQ gE gtp glf gtr glh gov mW mC mL mR w1mQ mE mtb mnC mnL mnR mov w1mnQ mwr mwl mft w1mth mpl out)) C K (ci := 3) (q0 := 0) rfl rfl rfl (ctX3_command l D am km _ _ _ _ _ _ _ _ _ _ _ _ _ _ _ _ _ _ _ _ _ _ _ _ hmw1) gL_law_X3_command rfl rfl rfl hdyX3_command ⟨Nat.le_of_ble_eq_true rfl, Nat.le_of_ble_eq_true rfl⟩ ((List.range 7).map (fun i => 19 + i)) rfl (by decide) (jspB rfl rfl rfl) [6, 7, 8, 9, 10, 11] rfl rfl (Nat.le_of_ble_eq_true rfl) dL_law_789 ⟨by show 30 + j ≤ 601024; omega, by show 33300 + 6 * j ≤ 7293033; omega⟩ ?_
  refine j_pop (pc := 792) C dL_law_792 rfl ?_
  refine j_goto (pc := 793) (tgt := 946) C dL_law_793 (by decide) ?_
  refine j_iinc (pc := 946) (v := (v4 + 6)) (lv' := [(4, .int (v4 + 6)), (0, .ref b), (1, .ref (a 0)), (2, .ref (am 0)), (3, .ref qo)]) C 4 dL_law_946 rfl rfl (by decide) rfl ?_
  refine j_goto (pc := 949) (tgt := 23) C dL_law_949 (by decide) ?_
  refine j_widen (k := 30 + (j + 1)) (n := 33300 + 6 * (j + 1)) (by omega) (by omega) ?_
  exact j_lv [1, 2, 3, 4, 0] rfl (ih (j + 1) _ _ _ _ _ _ _ _ _ _ _ _ _ _ _ _ _ _ _ _ _ _ _ _ _ _ _ _ _ _ _ _ _ _ (by omega) hv6 hIw1)
set_option maxHeartbeats 4000000 in
set_option maxRecDepth 100000 in
theorem lawc_obey {p : Program} {l : Launch} (hlt : l.stackTraces = false) {e : Env} {s : State} {m : MethodId} {below : List Frame} {meth : Method} {c : Code} {D : va_G} {b L : Nat} {xs : Nat → Int32} (hL : L ≤ 3072) (C : jc p s m #[Value.ref b] c code 7 RL wsL_law (fun q : Nat => s.heap.size ≤ q)) (hr : meth.sig.returnType = ret) (hlk : meth.locks = false) (hX : va_X b L xs s s.heap) (hbl : b < s.heap.size) (hxw : xw s) (hxz : xz (fun q : Nat => s.heap.size ≤ q) s s.heap) {I : Nat → GS → MS → Prop} (S_obey : sm_obey I 512) (a : Nat → Nat) (k : Nat → ClassId) (am : Nat → Nat) (km : Nat → ClassId) (qo : Nat) (ko : ClassId) (K : jk D (ltt k km ko) s) (j : Nat) (hjL : j < 512) (hj6 : 6 * j + 6 ≤ L) (v4 : Int32) (hv : v4 = nI (6 * j)) (gM : Nat → Int32) (gnC : Int32) (gbC : Nat → Int32) (gnL : Int32) (gbL : Nat → Int32) (gnF : Int32) (gbF : Nat → Int32) (gnQ : Int32) (gbQ : Nat → Int32) (gE : Nat → Nat → Int32) (gtp : Int32) (glf : Int32) (gtr : Int32) (glh : Int32) (gov : Int32) (mW : Nat → Int32) (mC : Nat → Int32) (mL : Nat → Int32) (mR : Nat → Int32) (mQ : Nat → Int32) (mE : Nat → Int32) (mtb : Int32) (mnC : Int32) (mnL : Int32) (mnR : Int32) (mov : Int32) (mnQ : Int32) (mwr : Int32) (mwl : Int32) (mft : Int32) (mth : Int32) (mpl : Int32) (out : Nat → Int64) (hI : I j (gM, gnC, gbC, gnL, gbL, gnF, gbF, gnQ, gbQ, gE, gtp, glf, gtr, glh, gov) (mW, mC, mL, mR, mQ, mE, mtb, mnC, mnL, mnR, mov, mnQ, mwr, mwl, mft, mth, mpl))
    (ih : ∀ (j2 : Nat) (gM : Nat → Int32) (gnC : Int32) (gbC : Nat → Int32) (gnL : Int32) (gbL : Nat → Int32) (gnF : Int32) (gbF : Nat → Int32) (gnQ : Int32) (gbQ : Nat → Int32) (gE : Nat → Nat → Int32) (gtp : Int32) (glf : Int32) (gtr : Int32) (glh : Int32) (gov : Int32) (mW : Nat → Int32) (mC : Nat → Int32) (mL : Nat → Int32) (mR : Nat → Int32) (mQ : Nat → Int32) (mE : Nat → Int32) (mtb : Int32) (mnC : Int32) (mnL : Int32) (mnR : Int32) (mov : Int32) (mnQ : Int32) (mwr : Int32) (mwl : Int32) (mft : Int32) (mth : Int32) (mpl : Int32) (out : Nat → Int64) (v4 : Int32), j2 = j + 1 → v4 = nI (6 * j2) → I j2 (gM, gnC, gbC, gnL, gbL, gnF, gbF, gnQ, gbQ, gE, gtp, glf, gtr, glh, gov) (mW, mC, mL, mR, mQ, mE, mtb, mnC, mnL, mnR, mov, mnQ, mwr, mwl, mft, mth, mpl) → jw p l e room_1 s m #[Value.ref b] below meth c 7 D (fun q : Nat => s.heap.size ≤ q) (30 + j2) (33300 + 6 * j2) (lw_Z below #[Value.ref b] s) (lww a k am km qo ko gM gnC gbC gnL gbL gnF gbF gnQ gbQ gE gtp glf gtr glh gov mW mC mL mR mQ mE mtb mnC mnL mnR mov mnQ mwr mwl mft mth mpl out) [(0, .ref b), (1, .ref (a 0)), (2, .ref (am 0)), (3, .ref qo), (4, .int v4)] 23 []) :
    jw p l e room_1 s m #[Value.ref b] below meth c 7 D (fun q : Nat => s.heap.size ≤ q) (30 + j) (33300 + 6 * j) (lw_Z below #[Value.ref b] s) (lww a k am km qo ko gM gnC gbC gnL gbL gnF gbF gnQ gbQ gE gtp glf gtr glh gov mW mC mL mR mQ mE mtb mnC mnL mnR mov mnQ mwr mwl mft mth mpl out) [(0, .ref b), (1, .ref (a 0)), (2, .ref (am 0)), (3, .ref qo), (4, .int v4)] 796 [] := by
  have hbA : ¬ (fun q : Nat => s.heap.size ≤ q) b := Nat.not_le.mpr hbl
  have hv1 : vp_in (v4 + 1) L := by rw [hv]; exact lawin hj6 (by omega) (k := 1) rfl (by omega)
  have hv2 : vp_in (v4 + 2) L := by rw [hv]; exact lawin hj6 (by omega) (k := 2) rfl (by omega)
  have hv3 : vp_in (v4 + 3) L := by rw [hv]; exact lawin hj6 (by omega) (k := 3) rfl (by omega)
  have hv4 : vp_in (v4 + 4) L := by rw [hv]; exact lawin hj6 (by omega) (k := 4) rfl (by omega)
  have hv5 : vp_in (v4 + 5) L := by rw [hv]; exact lawin hj6 (by omega) (k := 5) rfl (by omega)
  have hv6 : v4 + 6 = nI (6 * (j + 1)) := by rw [hv]; exact lawsix j
  refine j_aload_n (pc := 796) C 1 dL_law_796 rfl rfl ?_
  refine j_aload_n (pc := 797) C 0 dL_law_797 rfl rfl ?_
  refine j_iload (pc := 798) C 4 dL_law_798 rfl ?_
  refine j_iconst (pc := 800) (v := 1) C dL_law_800 (by decide) ?_
  refine j_iadd (pc := 801) C dL_law_801 ?_
  refine j_sld (pc := 802) C hX hbl hbA hv1 dL_law_802 ?_
  obtain ⟨rw1, rmw1, w1gM, w1gnC, w1gbC, w1gnL, w1gbL, w1gnQ, w1gbQ, w1mW, w1mC, w1mL, w1mQ, w1mnC, w1mnL, w1mnQ, w1mth, hw1, hmw1, hIw1⟩ := S_obey j _ _ _ _ _ _ _ _ _ _ _ _ _ _ _ _ _ _ _ _ _ _ _ _ _ _ _ _ _ _ _ _ (xs (v4 + 1).toNatClampNeg) hjL hI
  refine j_callVi (pc := 803) (As := [.int (xs (v4 + 1).toNatClampNeg)]) (rest := []) (ws' := (lww a k am km qo ko w1gM w1gnC w1gbC w1gnL w1gbL gnF gbF w1gnQ w1gbQ gE gtp glf gtr glh gov mW mC mL mR mQ mE mtb mnC mnL mnR mov mnQ mwr mwl mft mth mpl out)) C K (ci := 2) (q0 := 0) rfl rfl rfl (ctX2_obey l D a k _ _ _ _ _ _ _ _ _ _ _ _ _ _ _ _ _ _ _ _ _ _ _ _ hw1) gL_law_X2_obey rfl rfl rfl hdyX2_obey ⟨Nat.le_of_ble_eq_true rfl, Nat.le_of_ble_eq_true rfl⟩ (List.range 19) rfl (by decide) (jspA rfl rfl) [0, 1, 2, 3, 4, 5] rfl rfl (Nat.le_of_ble_eq_true rfl) dL_law_803 ⟨by show 30 + j ≤ 601024; omega, by show 33300 + 6 * j ≤ 7293033; omega⟩ ?_
  refine j_pop (pc := 806) C dL_law_806 rfl ?_
  refine j_aload_n (pc := 807) C 2 dL_law_807 rfl rfl ?_
  refine j_aload_n (pc := 808) C 0 dL_law_808 rfl rfl ?_
  refine j_iload (pc := 809) C 4 dL_law_809 rfl ?_
  refine j_iconst (pc := 811) (v := 1) C dL_law_811 (by decide) ?_
  refine j_iadd (pc := 812) C dL_law_812 ?_
  refine j_sld (pc := 813) C hX hbl hbA hv1 dL_law_813 ?_
  refine j_callVi (pc := 814) (As := [.int (xs (v4 + 1).toNatClampNeg)]) (rest := []) (ws' := (lww a k am km qo ko w1gM w1gnC w1gbC w1gnL w1gbL gnF gbF w1gnQ w1gbQ gE gtp glf gtr glh gov w1mW w1mC w1mL mR w1mQ mE mtb w1mnC w1mnL mnR mov w1mnQ mwr mwl mft w1mth mpl out)) C K (ci := 3) (q0 := 0) rfl rfl rfl (ctX3_obey l D am km _ _ _ _ _ _ _ _ _ _ _ _ _ _ _ _ _ _ _ _ _ _ _ _ _ _ _ hmw1) gL_law_X3_obey rfl rfl rfl hdyX3_obey ⟨Nat.le_of_ble_eq_true rfl, Nat.le_of_ble_eq_true rfl⟩ ((List.range 7).map (fun i => 19 + i)) rfl (by decide) (jspB rfl rfl rfl) [6, 7, 8, 9, 10, 11] rfl rfl (Nat.le_of_ble_eq_true rfl) dL_law_814 ⟨by show 30 + j ≤ 601024; omega, by show 33300 + 6 * j ≤ 7293033; omega⟩ ?_
  refine j_pop (pc := 817) C dL_law_817 rfl ?_
  refine j_goto (pc := 818) (tgt := 946) C dL_law_818 (by decide) ?_
  refine j_iinc (pc := 946) (v := (v4 + 6)) (lv' := [(4, .int (v4 + 6)), (0, .ref b), (1, .ref (a 0)), (2, .ref (am 0)), (3, .ref qo)]) C 4 dL_law_946 rfl rfl (by decide) rfl ?_
  refine j_goto (pc := 949) (tgt := 23) C dL_law_949 (by decide) ?_
  refine j_widen (k := 30 + (j + 1)) (n := 33300 + 6 * (j + 1)) (by omega) (by omega) ?_
  exact j_lv [1, 2, 3, 4, 0] rfl (ih (j + 1) _ _ _ _ _ _ _ _ _ _ _ _ _ _ _ _ _ _ _ _ _ _ _ _ _ _ _ _ _ _ _ _ _ _ (by omega) hv6 hIw1)
set_option maxHeartbeats 4000000 in
set_option maxRecDepth 100000 in
theorem lawc_count {p : Program} {l : Launch} (hlt : l.stackTraces = false) {e : Env} {s : State} {m : MethodId} {below : List Frame} {meth : Method} {c : Code} {D : va_G} {b L : Nat} {xs : Nat → Int32} (hL : L ≤ 3072) (C : jc p s m #[Value.ref b] c code 7 RL wsL_law (fun q : Nat => s.heap.size ≤ q)) (hr : meth.sig.returnType = ret) (hlk : meth.locks = false) (hX : va_X b L xs s s.heap) (hbl : b < s.heap.size) (hxw : xw s) (hxz : xz (fun q : Nat => s.heap.size ≤ q) s s.heap) {I : Nat → GS → MS → Prop} (S_count : sm_count I 512) (a : Nat → Nat) (k : Nat → ClassId) (am : Nat → Nat) (km : Nat → ClassId) (qo : Nat) (ko : ClassId) (K : jk D (ltt k km ko) s) (j : Nat) (hjL : j < 512) (hj6 : 6 * j + 6 ≤ L) (v4 : Int32) (hv : v4 = nI (6 * j)) (gM : Nat → Int32) (gnC : Int32) (gbC : Nat → Int32) (gnL : Int32) (gbL : Nat → Int32) (gnF : Int32) (gbF : Nat → Int32) (gnQ : Int32) (gbQ : Nat → Int32) (gE : Nat → Nat → Int32) (gtp : Int32) (glf : Int32) (gtr : Int32) (glh : Int32) (gov : Int32) (mW : Nat → Int32) (mC : Nat → Int32) (mL : Nat → Int32) (mR : Nat → Int32) (mQ : Nat → Int32) (mE : Nat → Int32) (mtb : Int32) (mnC : Int32) (mnL : Int32) (mnR : Int32) (mov : Int32) (mnQ : Int32) (mwr : Int32) (mwl : Int32) (mft : Int32) (mth : Int32) (mpl : Int32) (out : Nat → Int64) (hI : I j (gM, gnC, gbC, gnL, gbL, gnF, gbF, gnQ, gbQ, gE, gtp, glf, gtr, glh, gov) (mW, mC, mL, mR, mQ, mE, mtb, mnC, mnL, mnR, mov, mnQ, mwr, mwl, mft, mth, mpl))
    (ih : ∀ (j2 : Nat) (gM : Nat → Int32) (gnC : Int32) (gbC : Nat → Int32) (gnL : Int32) (gbL : Nat → Int32) (gnF : Int32) (gbF : Nat → Int32) (gnQ : Int32) (gbQ : Nat → Int32) (gE : Nat → Nat → Int32) (gtp : Int32) (glf : Int32) (gtr : Int32) (glh : Int32) (gov : Int32) (mW : Nat → Int32) (mC : Nat → Int32) (mL : Nat → Int32) (mR : Nat → Int32) (mQ : Nat → Int32) (mE : Nat → Int32) (mtb : Int32) (mnC : Int32) (mnL : Int32) (mnR : Int32) (mov : Int32) (mnQ : Int32) (mwr : Int32) (mwl : Int32) (mft : Int32) (mth : Int32) (mpl : Int32) (out : Nat → Int64) (v4 : Int32), j2 = j + 1 → v4 = nI (6 * j2) → I j2 (gM, gnC, gbC, gnL, gbL, gnF, gbF, gnQ, gbQ, gE, gtp, glf, gtr, glh, gov) (mW, mC, mL, mR, mQ, mE, mtb, mnC, mnL, mnR, mov, mnQ, mwr, mwl, mft, mth, mpl) → jw p l e room_1 s m #[Value.ref b] below meth c 7 D (fun q : Nat => s.heap.size ≤ q) (30 + j2) (33300 + 6 * j2) (lw_Z below #[Value.ref b] s) (lww a k am km qo ko gM gnC gbC gnL gbL gnF gbF gnQ gbQ gE gtp glf gtr glh gov mW mC mL mR mQ mE mtb mnC mnL mnR mov mnQ mwr mwl mft mth mpl out) [(0, .ref b), (1, .ref (a 0)), (2, .ref (am 0)), (3, .ref qo), (4, .int v4)] 23 []) :
    jw p l e room_1 s m #[Value.ref b] below meth c 7 D (fun q : Nat => s.heap.size ≤ q) (30 + j) (33300 + 6 * j) (lw_Z below #[Value.ref b] s) (lww a k am km qo ko gM gnC gbC gnL gbL gnF gbF gnQ gbQ gE gtp glf gtr glh gov mW mC mL mR mQ mE mtb mnC mnL mnR mov mnQ mwr mwl mft mth mpl out) [(0, .ref b), (1, .ref (a 0)), (2, .ref (am 0)), (3, .ref qo), (4, .int v4)] 821 [] := by
  have hbA : ¬ (fun q : Nat => s.heap.size ≤ q) b := Nat.not_le.mpr hbl
  have hv1 : vp_in (v4 + 1) L := by rw [hv]; exact lawin hj6 (by omega) (k := 1) rfl (by omega)
  have hv2 : vp_in (v4 + 2) L := by rw [hv]; exact lawin hj6 (by omega) (k := 2) rfl (by omega)
  have hv3 : vp_in (v4 + 3) L := by rw [hv]; exact lawin hj6 (by omega) (k := 3) rfl (by omega)
  have hv4 : vp_in (v4 + 4) L := by rw [hv]; exact lawin hj6 (by omega) (k := 4) rfl (by omega)
  have hv5 : vp_in (v4 + 5) L := by rw [hv]; exact lawin hj6 (by omega) (k := 5) rfl (by omega)
  have hv6 : v4 + 6 = nI (6 * (j + 1)) := by rw [hv]; exact lawsix j
  refine j_aload_n (pc := 821) C 1 dL_law_821 rfl rfl ?_
  refine j_aload_n (pc := 822) C 0 dL_law_822 rfl rfl ?_
  refine j_iload (pc := 823) C 4 dL_law_823 rfl ?_
  refine j_iconst (pc := 825) (v := 1) C dL_law_825 (by decide) ?_
  refine j_iadd (pc := 826) C dL_law_826 ?_
  refine j_sld (pc := 827) C hX hbl hbA hv1 dL_law_827 ?_
  obtain ⟨rw1, rmw1, w1mth, hw1, hmw1, hIw1⟩ := S_count j _ _ _ _ _ _ _ _ _ _ _ _ _ _ _ _ _ _ _ _ _ _ _ _ _ _ _ _ _ _ _ _ (xs (v4 + 1).toNatClampNeg) hjL hI
  refine j_callVi (pc := 828) (As := [.int (xs (v4 + 1).toNatClampNeg)]) (rest := []) (ws' := (lww a k am km qo ko gM gnC gbC gnL gbL gnF gbF gnQ gbQ gE gtp glf gtr glh gov mW mC mL mR mQ mE mtb mnC mnL mnR mov mnQ mwr mwl mft mth mpl out)) C K (ci := 2) (q0 := 0) rfl rfl rfl (ctX2_count l D a k _ _ _ _ _ _ _ _ _ _ _ _ _ _ _ _ _ hw1) gL_law_X2_count rfl rfl rfl hdyX2_count ⟨Nat.le_of_ble_eq_true rfl, Nat.le_of_ble_eq_true rfl⟩ (List.range 19) rfl (by decide) (jspA rfl rfl) [0, 1, 2, 3, 4, 5] rfl rfl (Nat.le_of_ble_eq_true rfl) dL_law_828 ⟨by show 30 + j ≤ 601024; omega, by show 33300 + 6 * j ≤ 7293033; omega⟩ ?_
  refine j_pop (pc := 831) C dL_law_831 rfl ?_
  refine j_aload_n (pc := 832) C 2 dL_law_832 rfl rfl ?_
  refine j_aload_n (pc := 833) C 0 dL_law_833 rfl rfl ?_
  refine j_iload (pc := 834) C 4 dL_law_834 rfl ?_
  refine j_iconst (pc := 836) (v := 1) C dL_law_836 (by decide) ?_
  refine j_iadd (pc := 837) C dL_law_837 ?_
  refine j_sld (pc := 838) C hX hbl hbA hv1 dL_law_838 ?_
  refine j_callVi (pc := 839) (As := [.int (xs (v4 + 1).toNatClampNeg)]) (rest := []) (ws' := (lww a k am km qo ko gM gnC gbC gnL gbL gnF gbF gnQ gbQ gE gtp glf gtr glh gov mW mC mL mR mQ mE mtb mnC mnL mnR mov mnQ mwr mwl mft w1mth mpl out)) C K (ci := 3) (q0 := 0) rfl rfl rfl (ctX3_count l D am km _ _ _ _ _ _ _ _ _ _ _ _ _ _ _ _ _ _ _ _ hmw1) gL_law_X3_count rfl rfl rfl hdyX3_count ⟨Nat.le_of_ble_eq_true rfl, Nat.le_of_ble_eq_true rfl⟩ ((List.range 7).map (fun i => 19 + i)) rfl (by decide) (jspB rfl rfl rfl) [6, 7, 8, 9, 10, 11] rfl rfl (Nat.le_of_ble_eq_true rfl) dL_law_839 ⟨by show 30 + j ≤ 601024; omega, by show 33300 + 6 * j ≤ 7293033; omega⟩ ?_
  refine j_pop (pc := 842) C dL_law_842 rfl ?_
  refine j_goto (pc := 843) (tgt := 946) C dL_law_843 (by decide) ?_
  refine j_iinc (pc := 946) (v := (v4 + 6)) (lv' := [(4, .int (v4 + 6)), (0, .ref b), (1, .ref (a 0)), (2, .ref (am 0)), (3, .ref qo)]) C 4 dL_law_946 rfl rfl (by decide) rfl ?_
  refine j_goto (pc := 949) (tgt := 23) C dL_law_949 (by decide) ?_
  refine j_widen (k := 30 + (j + 1)) (n := 33300 + 6 * (j + 1)) (by omega) (by omega) ?_
  exact j_lv [1, 2, 3, 4, 0] rfl (ih (j + 1) _ _ _ _ _ _ _ _ _ _ _ _ _ _ _ _ _ _ _ _ _ _ _ _ _ _ _ _ _ _ _ _ _ _ (by omega) hv6 hIw1)
set_option maxHeartbeats 4000000 in
set_option maxRecDepth 100000 in
theorem lawc_record {p : Program} {l : Launch} (hlt : l.stackTraces = false) {e : Env} {s : State} {m : MethodId} {below : List Frame} {meth : Method} {c : Code} {D : va_G} {b L : Nat} {xs : Nat → Int32} (hL : L ≤ 3072) (C : jc p s m #[Value.ref b] c code 7 RL wsL_law (fun q : Nat => s.heap.size ≤ q)) (hr : meth.sig.returnType = ret) (hlk : meth.locks = false) (hX : va_X b L xs s s.heap) (hbl : b < s.heap.size) (hxw : xw s) (hxz : xz (fun q : Nat => s.heap.size ≤ q) s s.heap) {I : Nat → GS → MS → Prop} (S_record : sm_record I 512) (a : Nat → Nat) (k : Nat → ClassId) (am : Nat → Nat) (km : Nat → ClassId) (qo : Nat) (ko : ClassId) (K : jk D (ltt k km ko) s) (j : Nat) (hjL : j < 512) (hj6 : 6 * j + 6 ≤ L) (v4 : Int32) (hv : v4 = nI (6 * j)) (gM : Nat → Int32) (gnC : Int32) (gbC : Nat → Int32) (gnL : Int32) (gbL : Nat → Int32) (gnF : Int32) (gbF : Nat → Int32) (gnQ : Int32) (gbQ : Nat → Int32) (gE : Nat → Nat → Int32) (gtp : Int32) (glf : Int32) (gtr : Int32) (glh : Int32) (gov : Int32) (mW : Nat → Int32) (mC : Nat → Int32) (mL : Nat → Int32) (mR : Nat → Int32) (mQ : Nat → Int32) (mE : Nat → Int32) (mtb : Int32) (mnC : Int32) (mnL : Int32) (mnR : Int32) (mov : Int32) (mnQ : Int32) (mwr : Int32) (mwl : Int32) (mft : Int32) (mth : Int32) (mpl : Int32) (out : Nat → Int64) (hI : I j (gM, gnC, gbC, gnL, gbL, gnF, gbF, gnQ, gbQ, gE, gtp, glf, gtr, glh, gov) (mW, mC, mL, mR, mQ, mE, mtb, mnC, mnL, mnR, mov, mnQ, mwr, mwl, mft, mth, mpl))
    (ih : ∀ (j2 : Nat) (gM : Nat → Int32) (gnC : Int32) (gbC : Nat → Int32) (gnL : Int32) (gbL : Nat → Int32) (gnF : Int32) (gbF : Nat → Int32) (gnQ : Int32) (gbQ : Nat → Int32) (gE : Nat → Nat → Int32) (gtp : Int32) (glf : Int32) (gtr : Int32) (glh : Int32) (gov : Int32) (mW : Nat → Int32) (mC : Nat → Int32) (mL : Nat → Int32) (mR : Nat → Int32) (mQ : Nat → Int32) (mE : Nat → Int32) (mtb : Int32) (mnC : Int32) (mnL : Int32) (mnR : Int32) (mov : Int32) (mnQ : Int32) (mwr : Int32) (mwl : Int32) (mft : Int32) (mth : Int32) (mpl : Int32) (out : Nat → Int64) (v4 : Int32), j2 = j + 1 → v4 = nI (6 * j2) → I j2 (gM, gnC, gbC, gnL, gbL, gnF, gbF, gnQ, gbQ, gE, gtp, glf, gtr, glh, gov) (mW, mC, mL, mR, mQ, mE, mtb, mnC, mnL, mnR, mov, mnQ, mwr, mwl, mft, mth, mpl) → jw p l e room_1 s m #[Value.ref b] below meth c 7 D (fun q : Nat => s.heap.size ≤ q) (30 + j2) (33300 + 6 * j2) (lw_Z below #[Value.ref b] s) (lww a k am km qo ko gM gnC gbC gnL gbL gnF gbF gnQ gbQ gE gtp glf gtr glh gov mW mC mL mR mQ mE mtb mnC mnL mnR mov mnQ mwr mwl mft mth mpl out) [(0, .ref b), (1, .ref (a 0)), (2, .ref (am 0)), (3, .ref qo), (4, .int v4)] 23 []) :
    jw p l e room_1 s m #[Value.ref b] below meth c 7 D (fun q : Nat => s.heap.size ≤ q) (30 + j) (33300 + 6 * j) (lw_Z below #[Value.ref b] s) (lww a k am km qo ko gM gnC gbC gnL gbL gnF gbF gnQ gbQ gE gtp glf gtr glh gov mW mC mL mR mQ mE mtb mnC mnL mnR mov mnQ mwr mwl mft mth mpl out) [(0, .ref b), (1, .ref (a 0)), (2, .ref (am 0)), (3, .ref qo), (4, .int v4)] 846 [] := by
  have hbA : ¬ (fun q : Nat => s.heap.size ≤ q) b := Nat.not_le.mpr hbl
  have hv1 : vp_in (v4 + 1) L := by rw [hv]; exact lawin hj6 (by omega) (k := 1) rfl (by omega)
  have hv2 : vp_in (v4 + 2) L := by rw [hv]; exact lawin hj6 (by omega) (k := 2) rfl (by omega)
  have hv3 : vp_in (v4 + 3) L := by rw [hv]; exact lawin hj6 (by omega) (k := 3) rfl (by omega)
  have hv4 : vp_in (v4 + 4) L := by rw [hv]; exact lawin hj6 (by omega) (k := 4) rfl (by omega)
  have hv5 : vp_in (v4 + 5) L := by rw [hv]; exact lawin hj6 (by omega) (k := 5) rfl (by omega)
  have hv6 : v4 + 6 = nI (6 * (j + 1)) := by rw [hv]; exact lawsix j
  refine j_aload_n (pc := 846) C 1 dL_law_846 rfl rfl ?_
  refine j_aload_n (pc := 847) C 0 dL_law_847 rfl rfl ?_
  refine j_iload (pc := 848) C 4 dL_law_848 rfl ?_
  refine j_iconst (pc := 850) (v := 1) C dL_law_850 (by decide) ?_
  refine j_iadd (pc := 851) C dL_law_851 ?_
  refine j_sld (pc := 852) C hX hbl hbA hv1 dL_law_852 ?_
  refine j_aload_n (pc := 853) C 0 dL_law_853 rfl rfl ?_
  refine j_iload (pc := 854) C 4 dL_law_854 rfl ?_
  refine j_iconst (pc := 856) (v := 2) C dL_law_856 (by decide) ?_
  refine j_iadd (pc := 857) C dL_law_857 ?_
  refine j_sld (pc := 858) C hX hbl hbA hv2 dL_law_858 ?_
  obtain ⟨rw1, rmw1, w1mth, hw1, hmw1, hIw1⟩ := S_record j _ _ _ _ _ _ _ _ _ _ _ _ _ _ _ _ _ _ _ _ _ _ _ _ _ _ _ _ _ _ _ _ (xs (v4 + 1).toNatClampNeg) (xs (v4 + 2).toNatClampNeg) hjL hI
  refine j_callVi (pc := 859) (As := [.int (xs (v4 + 1).toNatClampNeg), .int (xs (v4 + 2).toNatClampNeg)]) (rest := []) (ws' := (lww a k am km qo ko gM gnC gbC gnL gbL gnF gbF gnQ gbQ gE gtp glf gtr glh gov mW mC mL mR mQ mE mtb mnC mnL mnR mov mnQ mwr mwl mft mth mpl out)) C K (ci := 2) (q0 := 0) rfl rfl rfl (ctX2_record l D a k _ _ _ _ _ _ _ _ _ _ _ _ _ _ _ _ _ _ hw1) gL_law_X2_record rfl rfl rfl hdyX2_record ⟨Nat.le_of_ble_eq_true rfl, Nat.le_of_ble_eq_true rfl⟩ (List.range 19) rfl (by decide) (jspA rfl rfl) [0, 1, 2, 3, 4, 5] rfl rfl (Nat.le_of_ble_eq_true rfl) dL_law_859 ⟨by show 30 + j ≤ 601024; omega, by show 33300 + 6 * j ≤ 7293033; omega⟩ ?_
  refine j_pop (pc := 862) C dL_law_862 rfl ?_
  refine j_aload_n (pc := 863) C 2 dL_law_863 rfl rfl ?_
  refine j_aload_n (pc := 864) C 0 dL_law_864 rfl rfl ?_
  refine j_iload (pc := 865) C 4 dL_law_865 rfl ?_
  refine j_iconst (pc := 867) (v := 1) C dL_law_867 (by decide) ?_
  refine j_iadd (pc := 868) C dL_law_868 ?_
  refine j_sld (pc := 869) C hX hbl hbA hv1 dL_law_869 ?_
  refine j_aload_n (pc := 870) C 0 dL_law_870 rfl rfl ?_
  refine j_iload (pc := 871) C 4 dL_law_871 rfl ?_
  refine j_iconst (pc := 873) (v := 2) C dL_law_873 (by decide) ?_
  refine j_iadd (pc := 874) C dL_law_874 ?_
  refine j_sld (pc := 875) C hX hbl hbA hv2 dL_law_875 ?_
  refine j_callVi (pc := 876) (As := [.int (xs (v4 + 1).toNatClampNeg), .int (xs (v4 + 2).toNatClampNeg)]) (rest := []) (ws' := (lww a k am km qo ko gM gnC gbC gnL gbL gnF gbF gnQ gbQ gE gtp glf gtr glh gov mW mC mL mR mQ mE mtb mnC mnL mnR mov mnQ mwr mwl mft w1mth mpl out)) C K (ci := 3) (q0 := 0) rfl rfl rfl (ctX3_record l D am km _ _ _ _ _ _ _ _ _ _ _ _ _ _ _ _ _ _ _ _ _ hmw1) gL_law_X3_record rfl rfl rfl hdyX3_record ⟨Nat.le_of_ble_eq_true rfl, Nat.le_of_ble_eq_true rfl⟩ ((List.range 7).map (fun i => 19 + i)) rfl (by decide) (jspB rfl rfl rfl) [6, 7, 8, 9, 10, 11] rfl rfl (Nat.le_of_ble_eq_true rfl) dL_law_876 ⟨by show 30 + j ≤ 601024; omega, by show 33300 + 6 * j ≤ 7293033; omega⟩ ?_
  refine j_pop (pc := 879) C dL_law_879 rfl ?_
  refine j_goto (pc := 880) (tgt := 946) C dL_law_880 (by decide) ?_
  refine j_iinc (pc := 946) (v := (v4 + 6)) (lv' := [(4, .int (v4 + 6)), (0, .ref b), (1, .ref (a 0)), (2, .ref (am 0)), (3, .ref qo)]) C 4 dL_law_946 rfl rfl (by decide) rfl ?_
  refine j_goto (pc := 949) (tgt := 23) C dL_law_949 (by decide) ?_
  refine j_widen (k := 30 + (j + 1)) (n := 33300 + 6 * (j + 1)) (by omega) (by omega) ?_
  exact j_lv [1, 2, 3, 4, 0] rfl (ih (j + 1) _ _ _ _ _ _ _ _ _ _ _ _ _ _ _ _ _ _ _ _ _ _ _ _ _ _ _ _ _ _ _ _ _ _ (by omega) hv6 hIw1)
set_option maxHeartbeats 4000000 in
set_option maxRecDepth 100000 in
theorem lawc_drop {p : Program} {l : Launch} (hlt : l.stackTraces = false) {e : Env} {s : State} {m : MethodId} {below : List Frame} {meth : Method} {c : Code} {D : va_G} {b L : Nat} {xs : Nat → Int32} (hL : L ≤ 3072) (C : jc p s m #[Value.ref b] c code 7 RL wsL_law (fun q : Nat => s.heap.size ≤ q)) (hr : meth.sig.returnType = ret) (hlk : meth.locks = false) (hX : va_X b L xs s s.heap) (hbl : b < s.heap.size) (hxw : xw s) (hxz : xz (fun q : Nat => s.heap.size ≤ q) s s.heap) {I : Nat → GS → MS → Prop} (S_drop : sm_drop I 512) (a : Nat → Nat) (k : Nat → ClassId) (am : Nat → Nat) (km : Nat → ClassId) (qo : Nat) (ko : ClassId) (K : jk D (ltt k km ko) s) (j : Nat) (hjL : j < 512) (hj6 : 6 * j + 6 ≤ L) (v4 : Int32) (hv : v4 = nI (6 * j)) (gM : Nat → Int32) (gnC : Int32) (gbC : Nat → Int32) (gnL : Int32) (gbL : Nat → Int32) (gnF : Int32) (gbF : Nat → Int32) (gnQ : Int32) (gbQ : Nat → Int32) (gE : Nat → Nat → Int32) (gtp : Int32) (glf : Int32) (gtr : Int32) (glh : Int32) (gov : Int32) (mW : Nat → Int32) (mC : Nat → Int32) (mL : Nat → Int32) (mR : Nat → Int32) (mQ : Nat → Int32) (mE : Nat → Int32) (mtb : Int32) (mnC : Int32) (mnL : Int32) (mnR : Int32) (mov : Int32) (mnQ : Int32) (mwr : Int32) (mwl : Int32) (mft : Int32) (mth : Int32) (mpl : Int32) (out : Nat → Int64) (hI : I j (gM, gnC, gbC, gnL, gbL, gnF, gbF, gnQ, gbQ, gE, gtp, glf, gtr, glh, gov) (mW, mC, mL, mR, mQ, mE, mtb, mnC, mnL, mnR, mov, mnQ, mwr, mwl, mft, mth, mpl))
    (ih : ∀ (j2 : Nat) (gM : Nat → Int32) (gnC : Int32) (gbC : Nat → Int32) (gnL : Int32) (gbL : Nat → Int32) (gnF : Int32) (gbF : Nat → Int32) (gnQ : Int32) (gbQ : Nat → Int32) (gE : Nat → Nat → Int32) (gtp : Int32) (glf : Int32) (gtr : Int32) (glh : Int32) (gov : Int32) (mW : Nat → Int32) (mC : Nat → Int32) (mL : Nat → Int32) (mR : Nat → Int32) (mQ : Nat → Int32) (mE : Nat → Int32) (mtb : Int32) (mnC : Int32) (mnL : Int32) (mnR : Int32) (mov : Int32) (mnQ : Int32) (mwr : Int32) (mwl : Int32) (mft : Int32) (mth : Int32) (mpl : Int32) (out : Nat → Int64) (v4 : Int32), j2 = j + 1 → v4 = nI (6 * j2) → I j2 (gM, gnC, gbC, gnL, gbL, gnF, gbF, gnQ, gbQ, gE, gtp, glf, gtr, glh, gov) (mW, mC, mL, mR, mQ, mE, mtb, mnC, mnL, mnR, mov, mnQ, mwr, mwl, mft, mth, mpl) → jw p l e room_1 s m #[Value.ref b] below meth c 7 D (fun q : Nat => s.heap.size ≤ q) (30 + j2) (33300 + 6 * j2) (lw_Z below #[Value.ref b] s) (lww a k am km qo ko gM gnC gbC gnL gbL gnF gbF gnQ gbQ gE gtp glf gtr glh gov mW mC mL mR mQ mE mtb mnC mnL mnR mov mnQ mwr mwl mft mth mpl out) [(0, .ref b), (1, .ref (a 0)), (2, .ref (am 0)), (3, .ref qo), (4, .int v4)] 23 []) :
    jw p l e room_1 s m #[Value.ref b] below meth c 7 D (fun q : Nat => s.heap.size ≤ q) (30 + j) (33300 + 6 * j) (lw_Z below #[Value.ref b] s) (lww a k am km qo ko gM gnC gbC gnL gbL gnF gbF gnQ gbQ gE gtp glf gtr glh gov mW mC mL mR mQ mE mtb mnC mnL mnR mov mnQ mwr mwl mft mth mpl out) [(0, .ref b), (1, .ref (a 0)), (2, .ref (am 0)), (3, .ref qo), (4, .int v4)] 883 [] := by
  have hbA : ¬ (fun q : Nat => s.heap.size ≤ q) b := Nat.not_le.mpr hbl
  have hv1 : vp_in (v4 + 1) L := by rw [hv]; exact lawin hj6 (by omega) (k := 1) rfl (by omega)
  have hv2 : vp_in (v4 + 2) L := by rw [hv]; exact lawin hj6 (by omega) (k := 2) rfl (by omega)
  have hv3 : vp_in (v4 + 3) L := by rw [hv]; exact lawin hj6 (by omega) (k := 3) rfl (by omega)
  have hv4 : vp_in (v4 + 4) L := by rw [hv]; exact lawin hj6 (by omega) (k := 4) rfl (by omega)
  have hv5 : vp_in (v4 + 5) L := by rw [hv]; exact lawin hj6 (by omega) (k := 5) rfl (by omega)
  have hv6 : v4 + 6 = nI (6 * (j + 1)) := by rw [hv]; exact lawsix j
  refine j_aload_n (pc := 883) C 1 dL_law_883 rfl rfl ?_
  obtain ⟨rw1, rmw1, w1gnF, w1gbF, w1mR, w1mnR, w1mth, hw1, hmw1, hIw1⟩ := S_drop j _ _ _ _ _ _ _ _ _ _ _ _ _ _ _ _ _ _ _ _ _ _ _ _ _ _ _ _ _ _ _ _ hjL hI
  refine j_callVi (pc := 884) (As := []) (rest := []) (ws' := (lww a k am km qo ko gM gnC gbC gnL gbL w1gnF w1gbF gnQ gbQ gE gtp glf gtr glh gov mW mC mL mR mQ mE mtb mnC mnL mnR mov mnQ mwr mwl mft mth mpl out)) C K (ci := 2) (q0 := 0) rfl rfl rfl (ctX2_drop l D a k _ _ _ _ _ _ _ _ _ _ _ _ _ _ _ _ _ _ hw1) gL_law_X2_drop rfl rfl rfl hdyX2_drop ⟨Nat.le_of_ble_eq_true rfl, Nat.le_of_ble_eq_true rfl⟩ (List.range 19) rfl (by decide) (jspA rfl rfl) [0, 1, 2, 3, 4, 5] rfl rfl (Nat.le_of_ble_eq_true rfl) dL_law_884 ⟨by show 30 + j ≤ 601024; omega, by show 33300 + 6 * j ≤ 7293033; omega⟩ ?_
  refine j_pop (pc := 887) C dL_law_887 rfl ?_
  refine j_aload_n (pc := 888) C 2 dL_law_888 rfl rfl ?_
  refine j_callVi (pc := 889) (As := []) (rest := []) (ws' := (lww a k am km qo ko gM gnC gbC gnL gbL w1gnF w1gbF gnQ gbQ gE gtp glf gtr glh gov mW mC mL w1mR mQ mE mtb mnC mnL w1mnR mov mnQ mwr mwl mft w1mth mpl out)) C K (ci := 3) (q0 := 0) rfl rfl rfl (ctX3_drop l D am km _ _ _ _ _ _ _ _ _ _ _ _ _ _ _ _ _ _ _ _ _ hmw1) gL_law_X3_drop rfl rfl rfl hdyX3_drop ⟨Nat.le_of_ble_eq_true rfl, Nat.le_of_ble_eq_true rfl⟩ ((List.range 7).map (fun i => 19 + i)) rfl (by decide) (jspB rfl rfl rfl) [6, 7, 8, 9, 10, 11] rfl rfl (Nat.le_of_ble_eq_true rfl) dL_law_889 ⟨by show 30 + j ≤ 601024; omega, by show 33300 + 6 * j ≤ 7293033; omega⟩ ?_
  refine j_pop (pc := 892) C dL_law_892 rfl ?_
  refine j_goto (pc := 893) (tgt := 946) C dL_law_893 (by decide) ?_
  refine j_iinc (pc := 946) (v := (v4 + 6)) (lv' := [(4, .int (v4 + 6)), (0, .ref b), (1, .ref (a 0)), (2, .ref (am 0)), (3, .ref qo)]) C 4 dL_law_946 rfl rfl (by decide) rfl ?_
  refine j_goto (pc := 949) (tgt := 23) C dL_law_949 (by decide) ?_
  refine j_widen (k := 30 + (j + 1)) (n := 33300 + 6 * (j + 1)) (by omega) (by omega) ?_
  exact j_lv [1, 2, 3, 4, 0] rfl (ih (j + 1) _ _ _ _ _ _ _ _ _ _ _ _ _ _ _ _ _ _ _ _ _ _ _ _ _ _ _ _ _ _ _ _ _ _ (by omega) hv6 hIw1)
set_option maxHeartbeats 4000000 in
set_option maxRecDepth 100000 in
theorem lawc_clear {p : Program} {l : Launch} (hlt : l.stackTraces = false) {e : Env} {s : State} {m : MethodId} {below : List Frame} {meth : Method} {c : Code} {D : va_G} {b L : Nat} {xs : Nat → Int32} (hL : L ≤ 3072) (C : jc p s m #[Value.ref b] c code 7 RL wsL_law (fun q : Nat => s.heap.size ≤ q)) (hr : meth.sig.returnType = ret) (hlk : meth.locks = false) (hX : va_X b L xs s s.heap) (hbl : b < s.heap.size) (hxw : xw s) (hxz : xz (fun q : Nat => s.heap.size ≤ q) s s.heap) {I : Nat → GS → MS → Prop} (S_clear : sm_clear I 512) (a : Nat → Nat) (k : Nat → ClassId) (am : Nat → Nat) (km : Nat → ClassId) (qo : Nat) (ko : ClassId) (K : jk D (ltt k km ko) s) (j : Nat) (hjL : j < 512) (hj6 : 6 * j + 6 ≤ L) (v4 : Int32) (hv : v4 = nI (6 * j)) (gM : Nat → Int32) (gnC : Int32) (gbC : Nat → Int32) (gnL : Int32) (gbL : Nat → Int32) (gnF : Int32) (gbF : Nat → Int32) (gnQ : Int32) (gbQ : Nat → Int32) (gE : Nat → Nat → Int32) (gtp : Int32) (glf : Int32) (gtr : Int32) (glh : Int32) (gov : Int32) (mW : Nat → Int32) (mC : Nat → Int32) (mL : Nat → Int32) (mR : Nat → Int32) (mQ : Nat → Int32) (mE : Nat → Int32) (mtb : Int32) (mnC : Int32) (mnL : Int32) (mnR : Int32) (mov : Int32) (mnQ : Int32) (mwr : Int32) (mwl : Int32) (mft : Int32) (mth : Int32) (mpl : Int32) (out : Nat → Int64) (hI : I j (gM, gnC, gbC, gnL, gbL, gnF, gbF, gnQ, gbQ, gE, gtp, glf, gtr, glh, gov) (mW, mC, mL, mR, mQ, mE, mtb, mnC, mnL, mnR, mov, mnQ, mwr, mwl, mft, mth, mpl))
    (ih : ∀ (j2 : Nat) (gM : Nat → Int32) (gnC : Int32) (gbC : Nat → Int32) (gnL : Int32) (gbL : Nat → Int32) (gnF : Int32) (gbF : Nat → Int32) (gnQ : Int32) (gbQ : Nat → Int32) (gE : Nat → Nat → Int32) (gtp : Int32) (glf : Int32) (gtr : Int32) (glh : Int32) (gov : Int32) (mW : Nat → Int32) (mC : Nat → Int32) (mL : Nat → Int32) (mR : Nat → Int32) (mQ : Nat → Int32) (mE : Nat → Int32) (mtb : Int32) (mnC : Int32) (mnL : Int32) (mnR : Int32) (mov : Int32) (mnQ : Int32) (mwr : Int32) (mwl : Int32) (mft : Int32) (mth : Int32) (mpl : Int32) (out : Nat → Int64) (v4 : Int32), j2 = j + 1 → v4 = nI (6 * j2) → I j2 (gM, gnC, gbC, gnL, gbL, gnF, gbF, gnQ, gbQ, gE, gtp, glf, gtr, glh, gov) (mW, mC, mL, mR, mQ, mE, mtb, mnC, mnL, mnR, mov, mnQ, mwr, mwl, mft, mth, mpl) → jw p l e room_1 s m #[Value.ref b] below meth c 7 D (fun q : Nat => s.heap.size ≤ q) (30 + j2) (33300 + 6 * j2) (lw_Z below #[Value.ref b] s) (lww a k am km qo ko gM gnC gbC gnL gbL gnF gbF gnQ gbQ gE gtp glf gtr glh gov mW mC mL mR mQ mE mtb mnC mnL mnR mov mnQ mwr mwl mft mth mpl out) [(0, .ref b), (1, .ref (a 0)), (2, .ref (am 0)), (3, .ref qo), (4, .int v4)] 23 []) :
    jw p l e room_1 s m #[Value.ref b] below meth c 7 D (fun q : Nat => s.heap.size ≤ q) (30 + j) (33300 + 6 * j) (lw_Z below #[Value.ref b] s) (lww a k am km qo ko gM gnC gbC gnL gbL gnF gbF gnQ gbQ gE gtp glf gtr glh gov mW mC mL mR mQ mE mtb mnC mnL mnR mov mnQ mwr mwl mft mth mpl out) [(0, .ref b), (1, .ref (a 0)), (2, .ref (am 0)), (3, .ref qo), (4, .int v4)] 896 [] := by
  have hbA : ¬ (fun q : Nat => s.heap.size ≤ q) b := Nat.not_le.mpr hbl
  have hv1 : vp_in (v4 + 1) L := by rw [hv]; exact lawin hj6 (by omega) (k := 1) rfl (by omega)
  have hv2 : vp_in (v4 + 2) L := by rw [hv]; exact lawin hj6 (by omega) (k := 2) rfl (by omega)
  have hv3 : vp_in (v4 + 3) L := by rw [hv]; exact lawin hj6 (by omega) (k := 3) rfl (by omega)
  have hv4 : vp_in (v4 + 4) L := by rw [hv]; exact lawin hj6 (by omega) (k := 4) rfl (by omega)
  have hv5 : vp_in (v4 + 5) L := by rw [hv]; exact lawin hj6 (by omega) (k := 5) rfl (by omega)
  have hv6 : v4 + 6 = nI (6 * (j + 1)) := by rw [hv]; exact lawsix j
  refine j_aload_n (pc := 896) C 1 dL_law_896 rfl rfl ?_
  obtain ⟨rw1, rmw1, w1gnF, w1gov, w1mnR, w1mov, w1mth, hw1, hmw1, hIw1⟩ := S_clear j _ _ _ _ _ _ _ _ _ _ _ _ _ _ _ _ _ _ _ _ _ _ _ _ _ _ _ _ _ _ _ _ hjL hI
  refine j_callVi (pc := 897) (As := []) (rest := []) (ws' := (lww a k am km qo ko gM gnC gbC gnL gbL w1gnF gbF gnQ gbQ gE gtp glf gtr glh w1gov mW mC mL mR mQ mE mtb mnC mnL mnR mov mnQ mwr mwl mft mth mpl out)) C K (ci := 2) (q0 := 0) rfl rfl rfl (ctX2_clear l D a k _ _ _ _ _ _ _ _ _ _ _ _ _ _ _ _ _ _ hw1) gL_law_X2_clear rfl rfl rfl hdyX2_clear ⟨Nat.le_of_ble_eq_true rfl, Nat.le_of_ble_eq_true rfl⟩ (List.range 19) rfl (by decide) (jspA rfl rfl) [0, 1, 2, 3, 4, 5] rfl rfl (Nat.le_of_ble_eq_true rfl) dL_law_897 ⟨by show 30 + j ≤ 601024; omega, by show 33300 + 6 * j ≤ 7293033; omega⟩ ?_
  refine j_pop (pc := 900) C dL_law_900 rfl ?_
  refine j_aload_n (pc := 901) C 2 dL_law_901 rfl rfl ?_
  refine j_callVi (pc := 902) (As := []) (rest := []) (ws' := (lww a k am km qo ko gM gnC gbC gnL gbL w1gnF gbF gnQ gbQ gE gtp glf gtr glh w1gov mW mC mL mR mQ mE mtb mnC mnL w1mnR w1mov mnQ mwr mwl mft w1mth mpl out)) C K (ci := 3) (q0 := 0) rfl rfl rfl (ctX3_clear l D am km _ _ _ _ _ _ _ _ _ _ _ _ _ _ _ _ _ _ _ _ _ hmw1) gL_law_X3_clear rfl rfl rfl hdyX3_clear ⟨Nat.le_of_ble_eq_true rfl, Nat.le_of_ble_eq_true rfl⟩ ((List.range 7).map (fun i => 19 + i)) rfl (by decide) (jspB rfl rfl rfl) [6, 7, 8, 9, 10, 11] rfl rfl (Nat.le_of_ble_eq_true rfl) dL_law_902 ⟨by show 30 + j ≤ 601024; omega, by show 33300 + 6 * j ≤ 7293033; omega⟩ ?_
  refine j_pop (pc := 905) C dL_law_905 rfl ?_
  refine j_goto (pc := 906) (tgt := 946) C dL_law_906 (by decide) ?_
  refine j_iinc (pc := 946) (v := (v4 + 6)) (lv' := [(4, .int (v4 + 6)), (0, .ref b), (1, .ref (a 0)), (2, .ref (am 0)), (3, .ref qo)]) C 4 dL_law_946 rfl rfl (by decide) rfl ?_
  refine j_goto (pc := 949) (tgt := 23) C dL_law_949 (by decide) ?_
  refine j_widen (k := 30 + (j + 1)) (n := 33300 + 6 * (j + 1)) (by omega) (by omega) ?_
  exact j_lv [1, 2, 3, 4, 0] rfl (ih (j + 1) _ _ _ _ _ _ _ _ _ _ _ _ _ _ _ _ _ _ _ _ _ _ _ _ _ _ _ _ _ _ _ _ _ _ (by omega) hv6 hIw1)
set_option maxHeartbeats 4000000 in
set_option maxRecDepth 100000 in
theorem lawc_leaf {p : Program} {l : Launch} (hlt : l.stackTraces = false) {e : Env} {s : State} {m : MethodId} {below : List Frame} {meth : Method} {c : Code} {D : va_G} {b L : Nat} {xs : Nat → Int32} (hL : L ≤ 3072) (C : jc p s m #[Value.ref b] c code 7 RL wsL_law (fun q : Nat => s.heap.size ≤ q)) (hr : meth.sig.returnType = ret) (hlk : meth.locks = false) (hX : va_X b L xs s s.heap) (hbl : b < s.heap.size) (hxw : xw s) (hxz : xz (fun q : Nat => s.heap.size ≤ q) s s.heap) {I : Nat → GS → MS → Prop} (S_leaf : sm_leaf I 512) (a : Nat → Nat) (k : Nat → ClassId) (am : Nat → Nat) (km : Nat → ClassId) (qo : Nat) (ko : ClassId) (K : jk D (ltt k km ko) s) (j : Nat) (hjL : j < 512) (hj6 : 6 * j + 6 ≤ L) (v4 : Int32) (hv : v4 = nI (6 * j)) (gM : Nat → Int32) (gnC : Int32) (gbC : Nat → Int32) (gnL : Int32) (gbL : Nat → Int32) (gnF : Int32) (gbF : Nat → Int32) (gnQ : Int32) (gbQ : Nat → Int32) (gE : Nat → Nat → Int32) (gtp : Int32) (glf : Int32) (gtr : Int32) (glh : Int32) (gov : Int32) (mW : Nat → Int32) (mC : Nat → Int32) (mL : Nat → Int32) (mR : Nat → Int32) (mQ : Nat → Int32) (mE : Nat → Int32) (mtb : Int32) (mnC : Int32) (mnL : Int32) (mnR : Int32) (mov : Int32) (mnQ : Int32) (mwr : Int32) (mwl : Int32) (mft : Int32) (mth : Int32) (mpl : Int32) (out : Nat → Int64) (hI : I j (gM, gnC, gbC, gnL, gbL, gnF, gbF, gnQ, gbQ, gE, gtp, glf, gtr, glh, gov) (mW, mC, mL, mR, mQ, mE, mtb, mnC, mnL, mnR, mov, mnQ, mwr, mwl, mft, mth, mpl))
    (ih : ∀ (j2 : Nat) (gM : Nat → Int32) (gnC : Int32) (gbC : Nat → Int32) (gnL : Int32) (gbL : Nat → Int32) (gnF : Int32) (gbF : Nat → Int32) (gnQ : Int32) (gbQ : Nat → Int32) (gE : Nat → Nat → Int32) (gtp : Int32) (glf : Int32) (gtr : Int32) (glh : Int32) (gov : Int32) (mW : Nat → Int32) (mC : Nat → Int32) (mL : Nat → Int32) (mR : Nat → Int32) (mQ : Nat → Int32) (mE : Nat → Int32) (mtb : Int32) (mnC : Int32) (mnL : Int32) (mnR : Int32) (mov : Int32) (mnQ : Int32) (mwr : Int32) (mwl : Int32) (mft : Int32) (mth : Int32) (mpl : Int32) (out : Nat → Int64) (v4 : Int32), j2 = j + 1 → v4 = nI (6 * j2) → I j2 (gM, gnC, gbC, gnL, gbL, gnF, gbF, gnQ, gbQ, gE, gtp, glf, gtr, glh, gov) (mW, mC, mL, mR, mQ, mE, mtb, mnC, mnL, mnR, mov, mnQ, mwr, mwl, mft, mth, mpl) → jw p l e room_1 s m #[Value.ref b] below meth c 7 D (fun q : Nat => s.heap.size ≤ q) (30 + j2) (33300 + 6 * j2) (lw_Z below #[Value.ref b] s) (lww a k am km qo ko gM gnC gbC gnL gbL gnF gbF gnQ gbQ gE gtp glf gtr glh gov mW mC mL mR mQ mE mtb mnC mnL mnR mov mnQ mwr mwl mft mth mpl out) [(0, .ref b), (1, .ref (a 0)), (2, .ref (am 0)), (3, .ref qo), (4, .int v4)] 23 []) :
    jw p l e room_1 s m #[Value.ref b] below meth c 7 D (fun q : Nat => s.heap.size ≤ q) (30 + j) (33300 + 6 * j) (lw_Z below #[Value.ref b] s) (lww a k am km qo ko gM gnC gbC gnL gbL gnF gbF gnQ gbQ gE gtp glf gtr glh gov mW mC mL mR mQ mE mtb mnC mnL mnR mov mnQ mwr mwl mft mth mpl out) [(0, .ref b), (1, .ref (a 0)), (2, .ref (am 0)), (3, .ref qo), (4, .int v4)] 909 [] := by
  have hbA : ¬ (fun q : Nat => s.heap.size ≤ q) b := Nat.not_le.mpr hbl
  have hv1 : vp_in (v4 + 1) L := by rw [hv]; exact lawin hj6 (by omega) (k := 1) rfl (by omega)
  have hv2 : vp_in (v4 + 2) L := by rw [hv]; exact lawin hj6 (by omega) (k := 2) rfl (by omega)
  have hv3 : vp_in (v4 + 3) L := by rw [hv]; exact lawin hj6 (by omega) (k := 3) rfl (by omega)
  have hv4 : vp_in (v4 + 4) L := by rw [hv]; exact lawin hj6 (by omega) (k := 4) rfl (by omega)
  have hv5 : vp_in (v4 + 5) L := by rw [hv]; exact lawin hj6 (by omega) (k := 5) rfl (by omega)
  have hv6 : v4 + 6 = nI (6 * (j + 1)) := by rw [hv]; exact lawsix j
  refine j_aload_n (pc := 909) C 1 dL_law_909 rfl rfl ?_
  refine j_aload_n (pc := 910) C 0 dL_law_910 rfl rfl ?_
  refine j_iload (pc := 911) C 4 dL_law_911 rfl ?_
  refine j_iconst (pc := 913) (v := 1) C dL_law_913 (by decide) ?_
  refine j_iadd (pc := 914) C dL_law_914 ?_
  refine j_sld (pc := 915) C hX hbl hbA hv1 dL_law_915 ?_
  refine j_aload_n (pc := 916) C 0 dL_law_916 rfl rfl ?_
  refine j_iload (pc := 917) C 4 dL_law_917 rfl ?_
  refine j_iconst (pc := 919) (v := 2) C dL_law_919 (by decide) ?_
  refine j_iadd (pc := 920) C dL_law_920 ?_
  refine j_sld (pc := 921) C hX hbl hbA hv2 dL_law_921 ?_
  obtain ⟨rw1, rmw1, w1mth, hw1, hmw1, hew1, hIw1⟩ := S_leaf j _ _ _ _ _ _ _ _ _ _ _ _ _ _ _ _ _ _ _ _ _ _ _ _ _ _ _ _ _ _ _ _ (xs (v4 + 1).toNatClampNeg) (xs (v4 + 2).toNatClampNeg) hjL hI
  refine j_callVi (pc := 922) (As := [.int (xs (v4 + 1).toNatClampNeg), .int (xs (v4 + 2).toNatClampNeg)]) (rest := []) (ws' := (lww a k am km qo ko gM gnC gbC gnL gbL gnF gbF gnQ gbQ gE gtp glf gtr glh gov mW mC mL mR mQ mE mtb mnC mnL mnR mov mnQ mwr mwl mft mth mpl out)) C K (ci := 2) (q0 := 0) rfl rfl rfl (ctX2_leaf l D a k _ _ _ _ _ _ _ _ _ _ _ _ _ _ _ _ _ _ hw1) gL_law_X2_leaf rfl rfl rfl hdyX2_leaf ⟨Nat.le_of_ble_eq_true rfl, Nat.le_of_ble_eq_true rfl⟩ (List.range 19) rfl (by decide) (jspA rfl rfl) [0, 1, 2, 3, 4, 5] rfl rfl (Nat.le_of_ble_eq_true rfl) dL_law_922 ⟨by show 30 + j ≤ 601024; omega, by show 33300 + 6 * j ≤ 7293033; omega⟩ ?_
  refine j_aload_n (pc := 925) C 2 dL_law_925 rfl rfl ?_
  refine j_aload_n (pc := 926) C 0 dL_law_926 rfl rfl ?_
  refine j_iload (pc := 927) C 4 dL_law_927 rfl ?_
  refine j_iconst (pc := 929) (v := 1) C dL_law_929 (by decide) ?_
  refine j_iadd (pc := 930) C dL_law_930 ?_
  refine j_sld (pc := 931) C hX hbl hbA hv1 dL_law_931 ?_
  refine j_aload_n (pc := 932) C 0 dL_law_932 rfl rfl ?_
  refine j_iload (pc := 933) C 4 dL_law_933 rfl ?_
  refine j_iconst (pc := 935) (v := 2) C dL_law_935 (by decide) ?_
  refine j_iadd (pc := 936) C dL_law_936 ?_
  refine j_sld (pc := 937) C hX hbl hbA hv2 dL_law_937 ?_
  refine j_callVi (pc := 938) (As := [.int (xs (v4 + 1).toNatClampNeg), .int (xs (v4 + 2).toNatClampNeg)]) (rest := [.int rw1]) (ws' := (lww a k am km qo ko gM gnC gbC gnL gbL gnF gbF gnQ gbQ gE gtp glf gtr glh gov mW mC mL mR mQ mE mtb mnC mnL mnR mov mnQ mwr mwl mft w1mth mpl out)) C K (ci := 3) (q0 := 0) rfl rfl rfl (ctX3_leaf l D am km _ _ _ _ _ _ _ _ _ _ _ _ _ _ _ _ _ _ _ _ _ hmw1) gL_law_X3_leaf rfl rfl rfl hdyX3_leaf ⟨Nat.le_of_ble_eq_true rfl, Nat.le_of_ble_eq_true rfl⟩ ((List.range 7).map (fun i => 19 + i)) rfl (by decide) (jspB rfl rfl rfl) [6, 7, 8, 9, 10, 11] rfl rfl (Nat.le_of_ble_eq_true rfl) dL_law_938 ⟨by show 30 + j ≤ 601024; omega, by show 33300 + 6 * j ≤ 7293033; omega⟩ ?_
  refine j_icmp_eq (pc := 941) (tgt := 946) C dL_law_941 (by decide) (fun _ => ?_) (fun h => absurd hew1 h)
  refine j_iinc (pc := 946) (v := (v4 + 6)) (lv' := [(4, .int (v4 + 6)), (0, .ref b), (1, .ref (a 0)), (2, .ref (am 0)), (3, .ref qo)]) C 4 dL_law_946 rfl rfl (by decide) rfl ?_
  refine j_goto (pc := 949) (tgt := 23) C dL_law_949 (by decide) ?_
  refine j_widen (k := 30 + (j + 1)) (n := 33300 + 6 * (j + 1)) (by omega) (by omega) ?_
  exact j_lv [1, 2, 3, 4, 0] rfl (ih (j + 1) _ _ _ _ _ _ _ _ _ _ _ _ _ _ _ _ _ _ _ _ _ _ _ _ _ _ _ _ _ _ _ _ _ _ (by omega) hv6 hIw1)
set_option maxHeartbeats 4000000 in
set_option maxRecDepth 100000 in
theorem lawc_none {p : Program} {l : Launch} (hlt : l.stackTraces = false) {e : Env} {s : State} {m : MethodId} {below : List Frame} {meth : Method} {c : Code} {D : va_G} {b L : Nat} {xs : Nat → Int32} (hL : L ≤ 3072) (C : jc p s m #[Value.ref b] c code 7 RL wsL_law (fun q : Nat => s.heap.size ≤ q)) (hr : meth.sig.returnType = ret) (hlk : meth.locks = false) (hX : va_X b L xs s s.heap) (hbl : b < s.heap.size) (hxw : xw s) (hxz : xz (fun q : Nat => s.heap.size ≤ q) s s.heap) {I : Nat → GS → MS → Prop} (S_idle : sm_idle I 512) (a : Nat → Nat) (k : Nat → ClassId) (am : Nat → Nat) (km : Nat → ClassId) (qo : Nat) (ko : ClassId) (K : jk D (ltt k km ko) s) (j : Nat) (hjL : j < 512) (hj6 : 6 * j + 6 ≤ L) (v4 : Int32) (hv : v4 = nI (6 * j)) (gM : Nat → Int32) (gnC : Int32) (gbC : Nat → Int32) (gnL : Int32) (gbL : Nat → Int32) (gnF : Int32) (gbF : Nat → Int32) (gnQ : Int32) (gbQ : Nat → Int32) (gE : Nat → Nat → Int32) (gtp : Int32) (glf : Int32) (gtr : Int32) (glh : Int32) (gov : Int32) (mW : Nat → Int32) (mC : Nat → Int32) (mL : Nat → Int32) (mR : Nat → Int32) (mQ : Nat → Int32) (mE : Nat → Int32) (mtb : Int32) (mnC : Int32) (mnL : Int32) (mnR : Int32) (mov : Int32) (mnQ : Int32) (mwr : Int32) (mwl : Int32) (mft : Int32) (mth : Int32) (mpl : Int32) (out : Nat → Int64) (hI : I j (gM, gnC, gbC, gnL, gbL, gnF, gbF, gnQ, gbQ, gE, gtp, glf, gtr, glh, gov) (mW, mC, mL, mR, mQ, mE, mtb, mnC, mnL, mnR, mov, mnQ, mwr, mwl, mft, mth, mpl))
    (ih : ∀ (j2 : Nat) (gM : Nat → Int32) (gnC : Int32) (gbC : Nat → Int32) (gnL : Int32) (gbL : Nat → Int32) (gnF : Int32) (gbF : Nat → Int32) (gnQ : Int32) (gbQ : Nat → Int32) (gE : Nat → Nat → Int32) (gtp : Int32) (glf : Int32) (gtr : Int32) (glh : Int32) (gov : Int32) (mW : Nat → Int32) (mC : Nat → Int32) (mL : Nat → Int32) (mR : Nat → Int32) (mQ : Nat → Int32) (mE : Nat → Int32) (mtb : Int32) (mnC : Int32) (mnL : Int32) (mnR : Int32) (mov : Int32) (mnQ : Int32) (mwr : Int32) (mwl : Int32) (mft : Int32) (mth : Int32) (mpl : Int32) (out : Nat → Int64) (v4 : Int32), j2 = j + 1 → v4 = nI (6 * j2) → I j2 (gM, gnC, gbC, gnL, gbL, gnF, gbF, gnQ, gbQ, gE, gtp, glf, gtr, glh, gov) (mW, mC, mL, mR, mQ, mE, mtb, mnC, mnL, mnR, mov, mnQ, mwr, mwl, mft, mth, mpl) → jw p l e room_1 s m #[Value.ref b] below meth c 7 D (fun q : Nat => s.heap.size ≤ q) (30 + j2) (33300 + 6 * j2) (lw_Z below #[Value.ref b] s) (lww a k am km qo ko gM gnC gbC gnL gbL gnF gbF gnQ gbQ gE gtp glf gtr glh gov mW mC mL mR mQ mE mtb mnC mnL mnR mov mnQ mwr mwl mft mth mpl out) [(0, .ref b), (1, .ref (a 0)), (2, .ref (am 0)), (3, .ref qo), (4, .int v4)] 23 []) :
    jw p l e room_1 s m #[Value.ref b] below meth c 7 D (fun q : Nat => s.heap.size ≤ q) (30 + j) (33300 + 6 * j) (lw_Z below #[Value.ref b] s) (lww a k am km qo ko gM gnC gbC gnL gbL gnF gbF gnQ gbQ gE gtp glf gtr glh gov mW mC mL mR mQ mE mtb mnC mnL mnR mov mnQ mwr mwl mft mth mpl out) [(0, .ref b), (1, .ref (a 0)), (2, .ref (am 0)), (3, .ref qo), (4, .int v4)] 946 [] := by
  have hbA : ¬ (fun q : Nat => s.heap.size ≤ q) b := Nat.not_le.mpr hbl
  have hv1 : vp_in (v4 + 1) L := by rw [hv]; exact lawin hj6 (by omega) (k := 1) rfl (by omega)
  have hv2 : vp_in (v4 + 2) L := by rw [hv]; exact lawin hj6 (by omega) (k := 2) rfl (by omega)
  have hv3 : vp_in (v4 + 3) L := by rw [hv]; exact lawin hj6 (by omega) (k := 3) rfl (by omega)
  have hv4 : vp_in (v4 + 4) L := by rw [hv]; exact lawin hj6 (by omega) (k := 4) rfl (by omega)
  have hv5 : vp_in (v4 + 5) L := by rw [hv]; exact lawin hj6 (by omega) (k := 5) rfl (by omega)
  have hv6 : v4 + 6 = nI (6 * (j + 1)) := by rw [hv]; exact lawsix j
  have hIi := S_idle j (gM, gnC, gbC, gnL, gbL, gnF, gbF, gnQ, gbQ, gE, gtp, glf, gtr, glh, gov) (mW, mC, mL, mR, mQ, mE, mtb, mnC, mnL, mnR, mov, mnQ, mwr, mwl, mft, mth, mpl) hjL hI
  refine j_iinc (pc := 946) (v := (v4 + 6)) (lv' := [(4, .int (v4 + 6)), (0, .ref b), (1, .ref (a 0)), (2, .ref (am 0)), (3, .ref qo)]) C 4 dL_law_946 rfl rfl (by decide) rfl ?_
  refine j_goto (pc := 949) (tgt := 23) C dL_law_949 (by decide) ?_
  refine j_widen (k := 30 + (j + 1)) (n := 33300 + 6 * (j + 1)) (by omega) (by omega) ?_
  exact j_lv [1, 2, 3, 4, 0] rfl (ih (j + 1) _ _ _ _ _ _ _ _ _ _ _ _ _ _ _ _ _ _ _ _ _ _ _ _ _ _ _ _ _ _ _ _ _ _ (by omega) hv6 hIi)
