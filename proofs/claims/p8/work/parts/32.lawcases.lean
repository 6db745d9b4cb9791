theorem hdyL_poke : yL_poke.cls ≠ "java/lang/invoke/MethodHandle" ∧ yL_poke.cls ≠ "java/lang/invoke/VarHandle" ∧ (parseMethodDescriptor yL_poke.desc).map (fun d => d.parameters.length) = some 4 := by decide +kernel
theorem hdyL_peek : yL_peek.cls ≠ "java/lang/invoke/MethodHandle" ∧ yL_peek.cls ≠ "java/lang/invoke/VarHandle" ∧ (parseMethodDescriptor yL_peek.desc).map (fun d => d.parameters.length) = some 3 := by decide +kernel
theorem hdyL_read : yL_read.cls ≠ "java/lang/invoke/MethodHandle" ∧ yL_read.cls ≠ "java/lang/invoke/VarHandle" ∧ (parseMethodDescriptor yL_read.desc).map (fun d => d.parameters.length) = some 4 := by decide +kernel
theorem lawin {j L : Nat} (h6 : 6 * j + 6 ≤ L) (hL : L < 2 ^ 31) {k : Nat} {x : Int32} (hx : x = nI k) (hk : k < 6) : vp_in (nI (6 * j) + x) L := by
  rw [hx, nI_add]
  exact vp_in_nI (by omega) hL
theorem lawsix (j : Nat) : nI (6 * j) + 6 = nI (6 * (j + 1)) := by
  rw [show (6 : Int32) = nI 6 from rfl, nI_add]
  congr 1
set_option maxHeartbeats 4000000 in
set_option maxRecDepth 100000 in
theorem lawc_poke {p : Program} {l : Launch} (hlt : l.stackTraces = false) {e : Env} {s : State} {m : MethodId} {below : List Frame} {meth : Method} {c : Code} {D : va_G} {b L : Nat} {xs : Nat → Int32} (hL : L ≤ 3072) (C : jc p s m #[Value.ref b] c code 7 RL wsL_law (fun q : Nat => s.heap.size ≤ q)) (hr : meth.sig.returnType = ret) (hlk : meth.locks = false) (hX : va_X b L xs s s.heap) (hbl : b < s.heap.size) (hxw : xw s) (hxz : xz (fun q : Nat => s.heap.size ≤ q) s s.heap) {I : Nat → GS → MS → Prop} (S_poke : sm_poke I 512) (a : Nat → Nat) (k : Nat → ClassId) (am : Nat → Nat) (km : Nat → ClassId) (qo : Nat) (ko : ClassId) (K : jk D (ltt k km ko) s) (j : Nat) (hjL : j < 512) (hj6 : 6 * j + 6 ≤ L) (v4 : Int32) (hv : v4 = nI (6 * j)) (gM : Nat → Int32) (gnC : Int32) (gbC : Nat → Int32) (gnL : Int32) (gbL : Nat → Int32) (gnF : Int32) (gbF : Nat → Int32) (gnQ : Int32) (gbQ : Nat → Int32) (gE : Nat → Nat → Int32) (gtp : Int32) (glf : Int32) (gtr : Int32) (glh : Int32) (gov : Int32) (mW : Nat → Int32) (mC : Nat → Int32) (mL : Nat → Int32) (mR : Nat → Int32) (mQ : Nat → Int32) (mE : Nat → Int32) (mtb : Int32) (mnC : Int32) (mnL : Int32) (mnR : Int32) (mov : Int32) (mnQ : Int32) (mwr : Int32) (mwl : Int32) (mft : Int32) (mth : Int32) (mpl : Int32) (out : Nat → Int64) (hI : I j (gM, gnC, gbC, gnL, gbL, gnF, gbF, gnQ, gbQ, gE, gtp, glf, gtr, glh, gov) (mW, mC, mL, mR, mQ, mE, mtb, mnC, mnL, mnR, mov, mnQ, mwr, mwl, mft, mth, mpl))
    (ih : ∀ (j2 : Nat) (gM : Nat → Int32) (gnC : Int32) (gbC : Nat → Int32) (gnL : Int32) (gbL : Nat → Int32) (gnF : Int32) (gbF : Nat → Int32) (gnQ : Int32) (gbQ : Nat → Int32) (gE : Nat → Nat → Int32) (gtp : Int32) (glf : Int32) (gtr : Int32) (glh : Int32) (gov : Int32) (mW : Nat → Int32) (mC : Nat → Int32) (mL : Nat → Int32) (mR : Nat → Int32) (mQ : Nat → Int32) (mE : Nat → Int32) (mtb : Int32) (mnC : Int32) (mnL : Int32) (mnR : Int32) (mov : Int32) (mnQ : Int32) (mwr : Int32) (mwl : Int32) (mft : Int32) (mth : Int32) (mpl : Int32) (out : Nat → Int64) (v4 : Int32), j2 = j + 1 → v4 = nI (6 * j2) → I j2 (gM, gnC, gbC, gnL, gbL, gnF, gbF, gnQ, gbQ, gE, gtp, glf, gtr, glh, gov) (mW, mC, mL, mR, mQ, mE, mtb, mnC, mnL, mnR, mov, mnQ, mwr, mwl, mft, mth, mpl) → jw p l e room_1 s m #[Value.ref b] below meth c 7 D (fun q : Nat => s.heap.size ≤ q) (30 + j2) (33300 + 6 * j2) (lw_Z below #[Value.ref b] s) (lww a k am km qo ko gM gnC gbC gnL gbL gnF gbF gnQ gbQ gE gtp glf gtr glh gov mW mC mL mR mQ mE mtb mnC mnL mnR mov mnQ mwr mwl mft mth mpl out) [(0, .ref b), (1, .ref (a 0)), (2, .ref (am 0)), (3, .ref qo), (4, .int v4)] 23 []) :
    jw p l e room_1 s m #[Value.ref b] below meth c 7 D (fun q : Nat => s.heap.size ≤ q) (30 + j) (33300 + 6 * j) (lw_Z below #[Value.ref b] s) (lww a k am km qo ko gM gnC gbC gnL gbL gnF gbF gnQ gbQ gE gtp glf gtr glh gov mW mC mL mR mQ mE mtb mnC mnL mnR mov mnQ mwr mwl mft mth mpl out) [(0, .ref b), (1, .ref (a 0)), (2, .ref (am 0)), (3, .ref qo), (4, .int v4)] 140 [] := by
  have hbA : ¬ (fun q : Nat => s.heap.size ≤ q) b := Nat.not_le.mpr hbl
  have hv1 : vp_in (v4 + 1) L := by rw [hv]; exact lawin hj6 (by omega) (k := 1) rfl (by omega)
  have hv2 : vp_in (v4 + 2) L := by rw [hv]; exact lawin hj6 (by omega) (k := 2) rfl (by omega)
  have hv3 : vp_in (v4 + 3) L := by rw [hv]; exact lawin hj6 (by omega) (k := 3) rfl (by omega)
  have hv4 : vp_in (v4 + 4) L := by rw [hv]; exact lawin hj6 (by omega) (k := 4) rfl (by omega)
  have hv5 : vp_in (v4 + 5) L := by rw [hv]; exact lawin hj6 (by omega) (k := 5) rfl (by omega)
  have hv6 : v4 + 6 = nI (6 * (j + 1)) := by rw [hv]; exact lawsix j
  refine j_aload_n (pc := 140) C 1 dL_law_140 rfl rfl ?_
  refine j_aload_n (pc := 141) C 0 dL_law_141 rfl rfl ?_
  refine j_iload (pc := 142) C 4 dL_law_142 rfl ?_
  refine j_iconst (pc := 144) (v := 1) C dL_law_144 (by decide) ?_
  refine j_iadd (pc := 145) C dL_law_145 ?_
  refine j_sld (pc := 146) C hX hbl hbA hv1 dL_law_146 ?_
  refine j_aload_n (pc := 147) C 0 dL_law_147 rfl rfl ?_
  refine j_iload (pc := 148) C 4 dL_law_148 rfl ?_
  refine j_iconst (pc := 150) (v := 2) C dL_law_150 (by decide) ?_
  refine j_iadd (pc := 151) C dL_law_151 ?_
  refine j_sld (pc := 152) C hX hbl hbA hv2 dL_law_152 ?_
  refine j_aload_n (pc := 153) C 3 dL_law_153 rfl rfl ?_
  rcases S_poke j _ _ _ _ _ _ _ _ _ _ _ _ _ _ _ _ _ _ _ _ _ _ _ _ _ _ _ _ _ _ _ _ (xs (v4 + 1).toNatClampNeg) (xs (v4 + 2).toNatClampNeg) hjL hI with ⟨rw1, rmw1, w1gM, w1mW, w1mth, hw1, hmw1, hIw1⟩ | ⟨rmw1, w1mW, w1mth, hw1, hmw1, hIw1⟩
  · refine j_callSM (pc := 154) (As := [.ref (a 0), .int (xs (v4 + 1).toNatClampNeg), .int (xs (v4 + 2).toNatClampNeg), .ref qo]) (rest := []) (ws' := (lww a k am km qo ko w1gM gnC gbC gnL gbL gnF gbF gnQ gbQ gE gtp glf gtr glh gov mW mC mL mR mQ mE mtb mnC mnL mnR mov mnQ mwr mwl mft mth mpl (vp_updL out (0 : Int32).toNatClampNeg rw1.toInt64))) C K hxw hxz (ctL_poke_ret l D a k _ _ _ _ _ _ _ _ _ _ _ _ _ _ _ qo ko out _ _ _ _ hw1) gL_law_L_poke rfl rfl rfl hdyL_poke ⟨Nat.le_of_ble_eq_true rfl, Nat.le_of_ble_eq_true rfl⟩ (List.range 19 ++ (List.range 1).map (fun i => (19 + 7) + i)) rfl (by decide) (jspH rfl rfl rfl rfl rfl) [0, 1, 2, 3, 4, 5, 12] rfl rfl (Nat.le_of_ble_eq_true rfl) dL_law_154 ⟨by show 30 + j + 1 ≤ 601024; omega, by show 33300 + 6 * j + 6 ≤ 7293033; omega⟩ ?_
    refine j_istore (pc := 157) (lv' := [(5, .int 0), (0, .ref b), (1, .ref (a 0)), (2, .ref (am 0)), (3, .ref qo), (4, .int v4)]) C dL_law_157 (by decide) rfl ?_
    refine j_aload_n (pc := 159) C 3 dL_law_159 rfl rfl ?_
    refine j_aload_n (pc := 160) C 1 dL_law_160 rfl rfl ?_
    refine j_iload (pc := 161) C 5 dL_law_161 rfl ?_
    refine j_iconst (pc := 163) (v := 1) C dL_law_163 (by decide) ?_
    refine j_iadd (pc := 164) C dL_law_164 ?_
    refine j_sld (pc := 165) C hX hbl hbA hv1 dL_law_165 ?_
    refine j_aload_n (pc := 166) C 1 dL_law_166 rfl rfl ?_
    refine j_iload (pc := 167) C 5 dL_law_167 rfl ?_
    refine j_iconst (pc := 169) (v := 2) C dL_law_169 (by decide) ?_
    refine j_iadd (pc := 170) C dL_law_170 ?_
    refine j_sld (pc := 171) C hX hbl hbA hv2 dL_law_171 ?_
    refine j_callVi (pc := 172) (As := [.int (xs (v4 + 1).toNatClampNeg), .int (xs (v4 + 2).toNatClampNeg)]) (rest := []) (ws' := (lww a k am km qo ko w1gM gnC gbC gnL gbL gnF gbF gnQ gbQ gE gtp glf gtr glh gov w1mW mC mL mR mQ mE mtb mnC mnL mnR mov mnQ mwr mwl mft w1mth mpl (vp_updL out (0 : Int32).toNatClampNeg rw1.toInt64))) C K (ci := 3) (q0 := 0) rfl rfl rfl (ctX3_poke l D am km _ _ _ _ _ _ _ _ _ _ _ _ _ _ _ _ _ _ _ _ _ _ hmw1) gL_law_X3_poke rfl rfl rfl hdyX3_poke ⟨Nat.le_of_ble_eq_true rfl, Nat.le_of_ble_eq_true rfl⟩ ((List.range 7).map (fun i => 19 + i)) rfl (by decide) (jspB rfl rfl rfl) [6, 7, 8, 9, 10, 11] rfl rfl (Nat.le_of_ble_eq_true rfl) dL_law_172 ⟨by show 30 + j + 1 ≤ 601024; omega, by show 33300 + 6 * j + 6 ≤ 7293033; omega⟩ ?_
    refine j_istore (pc := 175) (lv' := [(6, .int rmw1), (5, .int 0), (0, .ref b), (1, .ref (a 0)), (2, .ref (am 0)), (3, .ref qo), (4, .int v4)]) C dL_law_175 (by decide) rfl ?_
    refine j_goto (pc := 177) (tgt := 974) C dL_law_177 (by decide) ?_
    refine j_iinc (pc := 974) (v := (v4 + 6)) (lv' := [(4, .int (v4 + 6)), (6, .int rmw1), (5, .int 0), (0, .ref b), (1, .ref (a 0)), (2, .ref (am 0)), (3, .ref qo)]) C 6 dL_law_974 rfl rfl (by decide) rfl ?_
    refine j_goto (pc := 977) (tgt := 23) C dL_law_977 (by decide) ?_
    refine j_widen (k := 30 + (j + 1)) (n := 33300 + 6 * (j + 1)) (by omega) (by omega) ?_
    exact j_lv [3, 4, 5, 6, 0] rfl (ih (j + 1) _ _ _ _ _ _ _ _ _ _ _ _ _ _ _ _ _ _ _ _ _ _ _ _ _ _ _ _ _ _ _ _ _ _ (by omega) hv6 hIw1)
  · refine j_callSM (pc := 154) (As := [.ref (a 0), .int (xs (v4 + 1).toNatClampNeg), .int (xs (v4 + 2).toNatClampNeg), .ref qo]) (rest := []) (ws' := (lww a k am km qo ko gM gnC gbC gnL gbL gnF gbF gnQ gbQ gE gtp glf gtr glh gov mW mC mL mR mQ mE mtb mnC mnL mnR mov mnQ mwr mwl mft mth mpl out)) C K hxw hxz (ctL_poke_thr l hlt D a k _ _ _ _ _ _ _ _ _ _ _ _ _ _ _ qo ko out _ _ hw1) gL_law_L_poke rfl rfl rfl hdyL_poke ⟨Nat.le_of_ble_eq_true rfl, Nat.le_of_ble_eq_true rfl⟩ (List.range 19 ++ (List.range 1).map (fun i => (19 + 7) + i)) rfl (by decide) (jspH rfl rfl rfl rfl rfl) [0, 1, 2, 3, 4, 5, 12] rfl rfl (Nat.le_of_ble_eq_true rfl) dL_law_154 ⟨by show 30 + j + 1 ≤ 601024; omega, by show 33300 + 6 * j + 6 ≤ 7293033; omega⟩ ?_
    refine j_istore (pc := 157) (lv' := [(5, .int 1), (0, .ref b), (1, .ref (a 0)), (2, .ref (am 0)), (3, .ref qo), (4, .int v4)]) C dL_law_157 (by decide) rfl ?_
    refine j_aload_n (pc := 159) C 3 dL_law_159 rfl rfl ?_
    refine j_aload_n (pc := 160) C 1 dL_law_160 rfl rfl ?_
    refine j_iload (pc := 161) C 5 dL_law_161 rfl ?_
    refine j_iconst (pc := 163) (v := 1) C dL_law_163 (by decide) ?_
    refine j_iadd (pc := 164) C dL_law_164 ?_
    refine j_sld (pc := 165) C hX hbl hbA hv1 dL_law_165 ?_
    refine j_aload_n (pc := 166) C 1 dL_law_166 rfl rfl ?_
    refine j_iload (pc := 167) C 5 dL_law_167 rfl ?_
    refine j_iconst (pc := 169) (v := 2) C dL_law_169 (by decide) ?_
    refine j_iadd (pc := 170) C dL_law_170 ?_
    refine j_sld (pc := 171) C hX hbl hbA hv2 dL_law_171 ?_
    refine j_callVi (pc := 172) (As := [.int (xs (v4 + 1).toNatClampNeg), .int (xs (v4 + 2).toNatClampNeg)]) (rest := []) (ws' := (lww a k am km qo ko gM gnC gbC gnL gbL gnF gbF gnQ gbQ gE gtp glf gtr glh gov w1mW mC mL mR mQ mE mtb mnC mnL mnR mov mnQ mwr mwl mft w1mth mpl out)) C K (ci := 3) (q0 := 0) rfl rfl rfl (ctX3_poke l D am km _ _ _ _ _ _ _ _ _ _ _ _ _ _ _ _ _ _ _ _ _ _ hmw1) gL_law_X3_poke rfl rfl rfl hdyX3_poke ⟨Nat.le_of_ble_eq_true rfl, Nat.le_of_ble_eq_true rfl⟩ ((List.range 7).map (fun i => 19 + i)) rfl (by decide) (jspB rfl rfl rfl) [6, 7, 8, 9, 10, 11] rfl rfl (Nat.le_of_ble_eq_true rfl) dL_law_172 ⟨by show 30 + j + 1 ≤ 601024; omega, by show 33300 + 6 * j + 6 ≤ 7293033; omega⟩ ?_
    refine j_istore (pc := 175) (lv' := [(6, .int rmw1), (5, .int 1), (0, .ref b), (1, .ref (a 0)), (2, .ref (am 0)), (3, .ref qo), (4, .int v4)]) C dL_law_175 (by decide) rfl ?_
    refine j_goto (pc := 177) (tgt := 974) C dL_law_177 (by decide) ?_
    refine j_iinc (pc := 974) (v := (v4 + 6)) (lv' := [(4, .int (v4 + 6)), (6, .int rmw1), (5, .int 1), (0, .ref b), (1, .ref (a 0)), (2, .ref (am 0)), (3, .ref qo)]) C 6 dL_law_974 rfl rfl (by decide) rfl ?_
    refine j_goto (pc := 977) (tgt := 23) C dL_law_977 (by decide) ?_
    refine j_widen (k := 30 + (j + 1)) (n := 33300 + 6 * (j + 1)) (by omega) (by omega) ?_
    exact j_lv [3, 4, 5, 6, 0] rfl (ih (j + 1) _ _ _ _ _ _ _ _ _ _ _ _ _ _ _ _ _ _ _ _ _ _ _ _ _ _ _ _ _ _ _ _ _ _ (by omega) hv6 hIw1)
set_option maxHeartbeats 4000000 in
set_option maxRecDepth 100000 in
theorem lawc_peek {p : Program} {l : Launch} (hlt : l.stackTraces = false) {e : Env} {s : State} {m : MethodId} {below : List Frame} {meth : Method} {c : Code} {D : va_G} {b L : Nat} {xs : Nat → Int32} (hL : L ≤ 3072) (C : jc p s m #[Value.ref b] c code 7 RL wsL_law (fun q : Nat => s.heap.size ≤ q)) (hr : meth.sig.returnType = ret) (hlk : meth.locks = false) (hX : va_X b L xs s s.heap) (hbl : b < s.heap.size) (hxw : xw s) (hxz : xz (fun q : Nat => s.heap.size ≤ q) s s.heap) {I : Nat → GS → MS → Prop} (S_peek : sm_peek I 512) (a : Nat → Nat) (k : Nat → ClassId) (am : Nat → Nat) (km : Nat → ClassId) (qo : Nat) (ko : ClassId) (K : jk D (ltt k km ko) s) (j : Nat) (hjL : j < 512) (hj6 : 6 * j + 6 ≤ L) (v4 : Int32) (hv : v4 = nI (6 * j)) (gM : Nat → Int32) (gnC : Int32) (gbC : Nat → Int32) (gnL : Int32) (gbL : Nat → Int32) (gnF : Int32) (gbF : Nat → Int32) (gnQ : Int32) (gbQ : Nat → Int32) (gE : Nat → Nat → Int32) (gtp : Int32) (glf : Int32) (gtr : Int32) (glh : Int32) (gov : Int32) (mW : Nat → Int32) (mC : Nat → Int32) (mL : Nat → Int32) (mR : Nat → Int32) (mQ : Nat → Int32) (mE : Nat → Int32) (mtb : Int32) (mnC : Int32) (mnL : Int32) (mnR : Int32) (mov : Int32) (mnQ : Int32) (mwr : Int32) (mwl : Int32) (mft : Int32) (mth : Int32) (mpl : Int32) (out : Nat → Int64) (hI : I j (gM, gnC, gbC, gnL, gbL, gnF, gbF, gnQ, gbQ, gE, gtp, glf, gtr, glh, gov) (mW, mC, mL, mR, mQ, mE, mtb, mnC, mnL, mnR, mov, mnQ, mwr, mwl, mft, mth, mpl))
    (ih : ∀ (j2 : Nat) (gM : Nat → Int32) (gnC : Int32) (gbC : Nat → Int32) (gnL : Int32) (gbL : Nat → Int32) (gnF : Int32) (gbF : Nat → Int32) (gnQ : Int32) (gbQ : Nat → Int32) (gE : Nat → Nat → Int32) (gtp : Int32) (glf : Int32) (gtr : Int32) (glh : Int32) (gov : Int32) (mW : Nat → Int32) (mC : Nat → Int32) (mL : Nat → Int32) (mR : Nat → Int32) (mQ : Nat → Int32) (mE : Nat → Int32) (mtb : Int32) (mnC : Int32) (mnL : Int32) (mnR : Int32) (mov : Int32) (mnQ : Int32) (mwr : Int32) (mwl : Int32) (mft : Int32) (mth : Int32) (mpl : Int32) (out : Nat → Int64) (v4 : Int32), j2 = j + 1 → v4 = nI (6 * j2) → I j2 (gM, gnC, gbC, gnL, gbL, gnF, gbF, gnQ, gbQ, gE, gtp, glf, gtr, glh, gov) (mW, mC, mL, mR, mQ, mE, mtb, mnC, mnL, mnR, mov, mnQ, mwr, mwl, mft, mth, mpl) → jw p l e room_1 s m #[Value.ref b] below meth c 7 D (fun q : Nat => s.heap.size ≤ q) (30 + j2) (33300 + 6 * j2) (lw_Z below #[Value.ref b] s) (lww a k am km qo ko gM gnC gbC gnL gbL gnF gbF gnQ gbQ gE gtp glf gtr glh gov mW mC mL mR mQ mE mtb mnC mnL mnR mov mnQ mwr mwl mft mth mpl out) [(0, .ref b), (1, .ref (a 0)), (2, .ref (am 0)), (3, .ref qo), (4, .int v4)] 23 []) :
    jw p l e room_1 s m #[Value.ref b] below meth c 7 D (fun q : Nat => s.heap.size ≤ q) (30 + j) (33300 + 6 * j) (lw_Z below #[Value.ref b] s) (lww a k am km qo ko gM gnC gbC gnL gbL gnF gbF gnQ gbQ gE gtp glf gtr glh gov mW mC mL mR mQ mE mtb mnC mnL mnR mov mnQ mwr mwl mft mth mpl out) [(0, .ref b), (1, .ref (a 0)), (2, .ref (am 0)), (3, .ref qo), (4, .int v4)] 180 [] := by
  have hbA : ¬ (fun q : Nat => s.heap.size ≤ q) b := Nat.not_le.mpr hbl
  have hv1 : vp_in (v4 + 1) L := by rw [hv]; exact lawin hj6 (by omega) (k := 1) rfl (by omega)
  have hv2 : vp_in (v4 + 2) L := by rw [hv]; exact lawin hj6 (by omega) (k := 2) rfl (by omega)
  have hv3 : vp_in (v4 + 3) L := by rw [hv]; exact lawin hj6 (by omega) (k := 3) rfl (by omega)
  have hv4 : vp_in (v4 + 4) L := by rw [hv]; exact lawin hj6 (by omega) (k := 4) rfl (by omega)
  have hv5 : vp_in (v4 + 5) L := by rw [hv]; exact lawin hj6 (by omega) (k := 5) rfl (by omega)
  have hv6 : v4 + 6 = nI (6 * (j + 1)) := by rw [hv]; exact lawsix j
  refine j_aload_n (pc := 180) C 1 dL_law_180 rfl rfl ?_
  refine j_aload_n (pc := 181) C 0 dL_law_181 rfl rfl ?_
  refine j_iload (pc := 182) C 4 dL_law_182 rfl ?_
  refine j_iconst (pc := 184) (v := 1) C dL_law_184 (by decide) ?_
  refine j_iadd (pc := 185) C dL_law_185 ?_
  refine j_sld (pc := 186) C hX hbl hbA hv1 dL_law_186 ?_
  refine j_aload_n (pc := 187) C 3 dL_law_187 rfl rfl ?_
  rcases S_peek j _ _ _ _ _ _ _ _ _ _ _ _ _ _ _ _ _ _ _ _ _ _ _ _ _ _ _ _ _ _ _ _ (xs (v4 + 1).toNatClampNeg) hjL hI with ⟨rw1, rmw1, w1mth, hw1, hmw1, hIw1⟩ | ⟨rmw1, w1mth, hw1, hmw1, hIw1⟩
  · refine j_callSM (pc := 188) (As := [.ref (a 0), .int (xs (v4 + 1).toNatClampNeg), .ref qo]) (rest := []) (ws' := (lww a k am km qo ko gM gnC gbC gnL gbL gnF gbF gnQ gbQ gE gtp glf gtr glh gov mW mC mL mR mQ mE mtb mnC mnL mnR mov mnQ mwr mwl mft mth mpl (vp_updL out (0 : Int32).toNatClampNeg rw1.toInt64))) C K hxw hxz (ctL_peek_ret l D a k _ _ _ _ _ _ _ _ _ _ _ _ _ _ _ qo ko out _ _ hw1) gL_law_L_peek rfl rfl rfl hdyL_peek ⟨Nat.le_of_ble_eq_true rfl, Nat.le_of_ble_eq_true rfl⟩ (List.range 19 ++ (List.range 1).map (fun i => (19 + 7) + i)) rfl (by decide) (jspH rfl rfl rfl rfl rfl) [0, 1, 2, 3, 4, 5, 12] rfl rfl (Nat.le_of_ble_eq_true rfl) dL_law_188 ⟨by show 30 + j + 1 ≤ 601024; omega, by show 33300 + 6 * j + 6 ≤ 7293033; omega⟩ ?_
    refine j_istore (pc := 191) (lv' := [(5, .int 0), (0, .ref b), (1, .ref (a 0)), (2, .ref (am 0)), (3, .ref qo), (4, .int v4)]) C dL_law_191 (by decide) rfl ?_
    refine j_aload_n (pc := 193) C 3 dL_law_193 rfl rfl ?_
    refine j_aload_n (pc := 194) C 1 dL_law_194 rfl rfl ?_
    refine j_iload (pc := 195) C 5 dL_law_195 rfl ?_
    refine j_iconst (pc := 197) (v := 1) C dL_law_197 (by decide) ?_
    refine j_iadd (pc := 198) C dL_law_198 ?_
    refine j_sld (pc := 199) C hX hbl hbA hv1 dL_law_199 ?_
    refine j_callVi (pc := 200) (As := [.int (xs (v4 + 1).toNatClampNeg)]) (rest := []) (ws' := (lww a k am km qo ko gM gnC gbC gnL gbL gnF gbF gnQ gbQ gE gtp glf gtr glh gov mW mC mL mR mQ mE mtb mnC mnL mnR mov mnQ mwr mwl mft w1mth mpl (vp_updL out (0 : Int32).toNatClampNeg rw1.toInt64))) C K (ci := 3) (q0 := 0) rfl rfl rfl (ctX3_peek l D am km _ _ _ _ _ _ _ _ _ _ _ _ _ _ _ _ _ _ _ _ hmw1) gL_law_X3_peek rfl rfl rfl hdyX3_peek ⟨Nat.le_of_ble_eq_true rfl, Nat.le_of_ble_eq_true rfl⟩ ((List.range 7).map (fun i => 19 + i)) rfl (by decide) (jspB rfl rfl rfl) [6, 7, 8, 9, 10, 11] rfl rfl (Nat.le_of_ble_eq_true rfl) dL_law_200 ⟨by show 30 + j + 1 ≤ 601024; omega, by show 33300 + 6 * j + 6 ≤ 7293033; omega⟩ ?_
    refine j_istore (pc := 203) (lv' := [(6, .int rmw1), (5, .int 0), (0, .ref b), (1, .ref (a 0)), (2, .ref (am 0)), (3, .ref qo), (4, .int v4)]) C dL_law_203 (by decide) rfl ?_
    refine j_goto (pc := 205) (tgt := 974) C dL_law_205 (by decide) ?_
    refine j_iinc (pc := 974) (v := (v4 + 6)) (lv' := [(4, .int (v4 + 6)), (6, .int rmw1), (5, .int 0), (0, .ref b), (1, .ref (a 0)), (2, .ref (am 0)), (3, .ref qo)]) C 6 dL_law_974 rfl rfl (by decide) rfl ?_
    refine j_goto (pc := 977) (tgt := 23) C dL_law_977 (by decide) ?_
    refine j_widen (k := 30 + (j + 1)) (n := 33300 + 6 * (j + 1)) (by omega) (by omega) ?_
    exact j_lv [3, 4, 5, 6, 0] rfl (ih (j + 1) _ _ _ _ _ _ _ _ _ _ _ _ _ _ _ _ _ _ _ _ _ _ _ _ _ _ _ _ _ _ _ _ _ _ (by omega) hv6 hIw1)
  · refine j_callSM (pc := 188) (As := [.ref (a 0), .int (xs (v4 + 1).toNatClampNeg), .ref qo]) (rest := []) (ws' := (lww a k am km qo ko gM gnC gbC gnL gbL gnF gbF gnQ gbQ gE gtp glf gtr glh gov mW mC mL mR mQ mE mtb mnC mnL mnR mov mnQ mwr mwl mft mth mpl out)) C K hxw hxz (ctL_peek_thr l hlt D a k _ _ _ _ _ _ _ _ _ _ _ _ _ _ _ qo ko out _ hw1) gL_law_L_peek rfl rfl rfl hdyL_peek ⟨Nat.le_of_ble_eq_true rfl, Nat.le_of_ble_eq_true rfl⟩ (List.range 19 ++ (List.range 1).map (fun i => (19 + 7) + i)) rfl (by decide) (jspH rfl rfl rfl rfl rfl) [0, 1, 2, 3, 4, 5, 12] rfl rfl (Nat.le_of_ble_eq_true rfl) dL_law_188 ⟨by show 30 + j + 1 ≤ 601024; omega, by show 33300 + 6 * j + 6 ≤ 7293033; omega⟩ ?_
    refine j_istore (pc := 191) (lv' := [(5, .int 1), (0, .ref b), (1, .ref (a 0)), (2, .ref (am 0)), (3, .ref qo), (4, .int v4)]) C dL_law_191 (by decide) rfl ?_
    refine j_aload_n (pc := 193) C 3 dL_law_193 rfl rfl ?_
    refine j_aload_n (pc := 194) C 1 dL_law_194 rfl rfl ?_
    refine j_iload (pc := 195) C 5 dL_law_195 rfl ?_
    refine j_iconst (pc := 197) (v := 1) C dL_law_197 (by decide) ?_
    refine j_iadd (pc := 198) C dL_law_198 ?_
    refine j_sld (pc := 199) C hX hbl hbA hv1 dL_law_199 ?_
    refine j_callVi (pc := 200) (As := [.int (xs (v4 + 1).toNatClampNeg)]) (rest := []) (ws' := (lww a k am km qo ko gM gnC gbC gnL gbL gnF gbF gnQ gbQ gE gtp glf gtr glh gov mW mC mL mR mQ mE mtb mnC mnL mnR mov mnQ mwr mwl mft w1mth mpl out)) C K (ci := 3) (q0 := 0) rfl rfl rfl (ctX3_peek l D am km _ _ _ _ _ _ _ _ _ _ _ _ _ _ _ _ _ _ _ _ hmw1) gL_law_X3_peek rfl rfl rfl hdyX3_peek ⟨Nat.le_of_ble_eq_true rfl, Nat.le_of_ble_eq_true rfl⟩ ((List.range 7).map (fun i => 19 + i)) rfl (by decide) (jspB rfl rfl rfl) [6, 7, 8, 9, 10, 11] rfl rfl (Nat.le_of_ble_eq_true rfl) dL_law_200 ⟨by show 30 + j + 1 ≤ 601024; omega, by show 33300 + 6 * j + 6 ≤ 7293033; omega⟩ ?_
    refine j_istore (pc := 203) (lv' := [(6, .int rmw1), (5, .int 1), (0, .ref b), (1, .ref (a 0)), (2, .ref (am 0)), (3, .ref qo), (4, .int v4)]) C dL_law_203 (by decide) rfl ?_
    refine j_goto (pc := 205) (tgt := 974) C dL_law_205 (by decide) ?_
    refine j_iinc (pc := 974) (v := (v4 + 6)) (lv' := [(4, .int (v4 + 6)), (6, .int rmw1), (5, .int 1), (0, .ref b), (1, .ref (a 0)), (2, .ref (am 0)), (3, .ref qo)]) C 6 dL_law_974 rfl rfl (by decide) rfl ?_
    refine j_goto (pc := 977) (tgt := 23) C dL_law_977 (by decide) ?_
    refine j_widen (k := 30 + (j + 1)) (n := 33300 + 6 * (j + 1)) (by omega) (by omega) ?_
    exact j_lv [3, 4, 5, 6, 0] rfl (ih (j + 1) _ _ _ _ _ _ _ _ _ _ _ _ _ _ _ _ _ _ _ _ _ _ _ _ _ _ _ _ _ _ _ _ _ _ (by omega) hv6 hIw1)
set_option maxHeartbeats 4000000 in
set_option maxRecDepth 100000 in
theorem lawc_fill {p : Program} {l : Launch} (hlt : l.stackTraces = false) {e : Env} {s : State} {m : MethodId} {below : List Frame} {meth : Method} {c : Code} {D : va_G} {b L : Nat} {xs : Nat → Int32} (hL : L ≤ 3072) (C : jc p s m #[Value.ref b] c code 7 RL wsL_law (fun q : Nat => s.heap.size ≤ q)) (hr : meth.sig.returnType = ret) (hlk : meth.locks = false) (hX : va_X b L xs s s.heap) (hbl : b < s.heap.size) (hxw : xw s) (hxz : xz (fun q : Nat => s.heap.size ≤ q) s s.heap) {I : Nat → GS → MS → Prop} (S_fill : sm_fill I 512) (a : Nat → Nat) (k : Nat → ClassId) (am : Nat → Nat) (km : Nat → ClassId) (qo : Nat) (ko : ClassId) (K : jk D (ltt k km ko) s) (j : Nat) (hjL : j < 512) (hj6 : 6 * j + 6 ≤ L) (v4 : Int32) (hv : v4 = nI (6 * j)) (gM : Nat → Int32) (gnC : Int32) (gbC : Nat → Int32) (gnL : Int32) (gbL : Nat → Int32) (gnF : Int32) (gbF : Nat → Int32) (gnQ : Int32) (gbQ : Nat → Int32) (gE : Nat → Nat → Int32) (gtp : Int32) (glf : Int32) (gtr : Int32) (glh : Int32) (gov : Int32) (mW : Nat → Int32) (mC : Nat → Int32) (mL : Nat → Int32) (mR : Nat → Int32) (mQ : Nat → Int32) (mE : Nat → Int32) (mtb : Int32) (mnC : Int32) (mnL : Int32) (mnR : Int32) (mov : Int32) (mnQ : Int32) (mwr : Int32) (mwl : Int32) (mft : Int32) (mth : Int32) (mpl : Int32) (out : Nat → Int64) (hI : I j (gM, gnC, gbC, gnL, gbL, gnF, gbF, gnQ, gbQ, gE, gtp, glf, gtr, glh, gov) (mW, mC, mL, mR, mQ, mE, mtb, mnC, mnL, mnR, mov, mnQ, mwr, mwl, mft, mth, mpl))
    (ih : ∀ (j2 : Nat) (gM : Nat → Int32) (gnC : Int32) (gbC : Nat → Int32) (gnL : Int32) (gbL : Nat → Int32) (gnF : Int32) (gbF : Nat → Int32) (gnQ : Int32) (gbQ : Nat → Int32) (gE : Nat → Nat → Int32) (gtp : Int32) (glf : Int32) (gtr : Int32) (glh : Int32) (gov : Int32) (mW : Nat → Int32) (mC : Nat → Int32) (mL : Nat → Int32) (mR : Nat → Int32) (mQ : Nat → Int32) (mE : Nat → Int32) (mtb : Int32) (mnC : Int32) (mnL : Int32) (mnR : Int32) (mov : Int32) (mnQ : Int32) (mwr : Int32) (mwl : Int32) (mft : Int32) (mth : Int32) (mpl : Int32) (out : Nat → Int64) (v4 : Int32), j2 = j + 1 → v4 = nI (6 * j2) → I j2 (gM, gnC, gbC, gnL, gbL, gnF, gbF, gnQ, gbQ, gE, gtp, glf, gtr, glh, gov) (mW, mC, mL, mR, mQ, mE, mtb, mnC, mnL, mnR, mov, mnQ, mwr, mwl, mft, mth, mpl) → jw p l e room_1 s m #[Value.ref b] below meth c 7 D (fun q : Nat => s.heap.size ≤ q) (30 + j2) (33300 + 6 * j2) (lw_Z below #[Value.ref b] s) (lww a k am km qo ko gM gnC gbC gnL gbL gnF gbF gnQ gbQ gE gtp glf gtr glh gov mW mC mL mR mQ mE mtb mnC mnL mnR mov mnQ mwr mwl mft mth mpl out) [(0, .ref b), (1, .ref (a 0)), (2, .ref (am 0)), (3, .ref qo), (4, .int v4)] 23 []) :
    jw p l e room_1 s m #[Value.ref b] below meth c 7 D (fun q : Nat => s.heap.size ≤ q) (30 + j) (33300 + 6 * j) (lw_Z below #[Value.ref b] s) (lww a k am km qo ko gM gnC gbC gnL gbL gnF gbF gnQ gbQ gE gtp glf gtr glh gov mW mC mL mR mQ mE mtb mnC mnL mnR mov mnQ mwr mwl mft mth mpl out) [(0, .ref b), (1, .ref (a 0)), (2, .ref (am 0)), (3, .ref qo), (4, .int v4)] 208 [] := by
  have hbA : ¬ (fun q : Nat => s.heap.size ≤ q) b := Nat.not_le.mpr hbl
  have hv1 : vp_in (v4 + 1) L := by rw [hv]; exact lawin hj6 (by omega) (k := 1) rfl (by omega)
  have hv2 : vp_in (v4 + 2) L := by rw [hv]; exact lawin hj6 (by omega) (k := 2) rfl (by omega)
  have hv3 : vp_in (v4 + 3) L := by rw [hv]; exact lawin hj6 (by omega) (k := 3) rfl (by omega)
  have hv4 : vp_in (v4 + 4) L := by rw [hv]; exact lawin hj6 (by omega) (k := 4) rfl (by omega)
  have hv5 : vp_in (v4 + 5) L := by rw [hv]; exact lawin hj6 (by omega) (k := 5) rfl (by omega)
  have hv6 : v4 + 6 = nI (6 * (j + 1)) := by rw [hv]; exact lawsix j
  refine j_aload_n (pc := 208) C 1 dL_law_208 rfl rfl ?_
  refine j_aload_n (pc := 209) C 0 dL_law_209 rfl rfl ?_
  refine j_iload (pc := 210) C 4 dL_law_210 rfl ?_
  refine j_iconst (pc := 212) (v := 1) C dL_law_212 (by decide) ?_
  refine j_iadd (pc := 213) C dL_law_213 ?_
  refine j_sld (pc := 214) C hX hbl hbA hv1 dL_law_214 ?_
  refine j_aload_n (pc := 215) C 0 dL_law_215 rfl rfl ?_
  refine j_iload (pc := 216) C 4 dL_law_216 rfl ?_
  refine j_iconst (pc := 218) (v := 2) C dL_law_218 (by decide) ?_
  refine j_iadd (pc := 219) C dL_law_219 ?_
  refine j_sld (pc := 220) C hX hbl hbA hv2 dL_law_220 ?_
  refine j_aload_n (pc := 221) C 0 dL_law_221 rfl rfl ?_
  refine j_iload (pc := 222) C 4 dL_law_222 rfl ?_
  refine j_iconst (pc := 224) (v := 3) C dL_law_224 (by decide) ?_
  refine j_iadd (pc := 225) C dL_law_225 ?_
  refine j_sld (pc := 226) C hX hbl hbA hv3 dL_law_226 ?_
  refine j_aload_n (pc := 227) C 0 dL_law_227 rfl rfl ?_
  refine j_iload (pc := 228) C 4 dL_law_228 rfl ?_
  refine j_iconst (pc := 230) (v := 4) C dL_law_230 (by decide) ?_
  refine j_iadd (pc := 231) C dL_law_231 ?_
  refine j_sld (pc := 232) C hX hbl hbA hv4 dL_law_232 ?_
  obtain ⟨rw1, rmw1, w1gM, w1mW, w1mth, hw1, hmw1, hIw1⟩ := S_fill j _ _ _ _ _ _ _ _ _ _ _ _ _ _ _ _ _ _ _ _ _ _ _ _ _ _ _ _ _ _ _ _ (xs (v4 + 1).toNatClampNeg) (xs (v4 + 2).toNatClampNeg) (xs (v4 + 3).toNatClampNeg) (xs (v4 + 4).toNatClampNeg) hjL hI
  refine j_callVi (pc := 233) (As := [.int (xs (v4 + 1).toNatClampNeg), .int (xs (v4 + 2).toNatClampNeg), .int (xs (v4 + 3).toNatClampNeg), .int (xs (v4 + 4).toNatClampNeg)]) (rest := []) (ws' := (lww a k am km qo ko w1gM gnC gbC gnL gbL gnF gbF gnQ gbQ gE gtp glf gtr glh gov mW mC mL mR mQ mE mtb mnC mnL mnR mov mnQ mwr mwl mft mth mpl out)) C K (ci := 2) (q0 := 0) rfl rfl rfl (ctX2_fill l D a k _ _ _ _ _ _ _ _ _ _ _ _ _ _ _ _ _ _ _ _ _ hw1) gL_law_X2_fill rfl rfl rfl hdyX2_fill ⟨Nat.le_of_ble_eq_true rfl, Nat.le_of_ble_eq_true rfl⟩ (List.range 19) rfl (by decide) (jspA rfl rfl) [0, 1, 2, 3, 4, 5] rfl rfl (Nat.le_of_ble_eq_true rfl) dL_law_233 ⟨by show 30 + j ≤ 601024; omega, by show 33300 + 6 * j ≤ 7293033; omega⟩ ?_
  refine j_pop (pc := 236) C dL_law_236 rfl ?_
  refine j_aload_n (pc := 237) C 2 dL_law_237 rfl rfl ?_
  refine j_aload_n (pc := 238) C 0 dL_law_238 rfl rfl ?_
  refine j_iload (pc := 239) C 4 dL_law_239 rfl ?_
  refine j_iconst (pc := 241) (v := 1) C dL_law_241 (by decide) ?_
  refine j_iadd (pc := 242) C dL_law_242 ?_
  refine j_sld (pc := 243) C hX hbl hbA hv1 dL_law_243 ?_
  refine j_aload_n (pc := 244) C 0 dL_law_244 rfl rfl ?_
  refine j_iload (pc := 245) C 4 dL_law_245 rfl ?_
  refine j_iconst (pc := 247) (v := 2) C dL_law_247 (by decide) ?_
  refine j_iadd (pc := 248) C dL_law_248 ?_
  refine j_sld (pc := 249) C hX hbl hbA hv2 dL_law_249 ?_
  refine j_aload_n (pc := 250) C 0 dL_law_250 rfl rfl ?_
  refine j_iload (pc := 251) C 4 dL_law_251 rfl ?_
  refine j_iconst (pc := 253) (v := 3) C dL_law_253 (by decide) ?_
  refine j_iadd (pc := 254) C dL_law_254 ?_
  refine j_sld (pc := 255) C hX hbl hbA hv3 dL_law_255 ?_
  refine j_aload_n (pc := 256) C 0 dL_law_256 rfl rfl ?_
  refine j_iload (pc := 257) C 4 dL_law_257 rfl ?_
  refine j_iconst (pc := 259) (v := 4) C dL_law_259 (by decide) ?_
  refine j_iadd (pc := 260) C dL_law_260 ?_
  refine j_sld (pc := 261) C hX hbl hbA hv4 dL_law_261 ?_
  refine j_callVi (pc := 262) (As := [.int (xs (v4 + 1).toNatClampNeg), .int (xs (v4 + 2).toNatClampNeg), .int (xs (v4 + 3).toNatClampNeg), .int (xs (v4 + 4).toNatClampNeg)]) (rest := []) (ws' := (lww a k am km qo ko w1gM gnC gbC gnL gbL gnF gbF gnQ gbQ gE gtp glf gtr glh gov w1mW mC mL mR mQ mE mtb mnC mnL mnR mov mnQ mwr mwl mft w1mth mpl out)) C K (ci := 3) (q0 := 0) rfl rfl rfl (ctX3_fill l D am km _ _ _ _ _ _ _ _ _ _ _ _ _ _ _ _ _ _ _ _ _ _ _ _ hmw1) gL_law_X3_fill rfl rfl rfl hdyX3_fill ⟨Nat.le_of_ble_eq_true rfl, Nat.le_of_ble_eq_true rfl⟩ ((List.range 7).map (fun i => 19 + i)) rfl (by decide) (jspB rfl rfl rfl) [6, 7, 8, 9, 10, 11] rfl rfl (Nat.le_of_ble_eq_true rfl) dL_law_262 ⟨by show 30 + j ≤ 601024; omega, by show 33300 + 6 * j ≤ 7293033; omega⟩ ?_
  refine j_pop (pc := 265) C dL_law_265 rfl ?_
  refine j_goto (pc := 266) (tgt := 974) C dL_law_266 (by decide) ?_
  refine j_iinc (pc := 974) (v := (v4 + 6)) (lv' := [(4, .int (v4 + 6)), (0, .ref b), (1, .ref (a 0)), (2, .ref (am 0)), (3, .ref qo)]) C 4 dL_law_974 rfl rfl (by decide) rfl ?_
  refine j_goto (pc := 977) (tgt := 23) C dL_law_977 (by decide) ?_
  refine j_widen (k := 30 + (j + 1)) (n := 33300 + 6 * (j + 1)) (by omega) (by omega) ?_
  exact j_lv [1, 2, 3, 4, 0] rfl (ih (j + 1) _ _ _ _ _ _ _ _ _ _ _ _ _ _ _ _ _ _ _ _ _ _ _ _ _ _ _ _ _ _ _ _ _ _ (by omega) hv6 hIw1)
set_option maxHeartbeats 4000000 in
set_option maxRecDepth 100000 in
theorem lawc_table {p : Program} {l : Launch} (hlt : l.stackTraces = false) {e : Env} {s : State} {m : MethodId} {below : List Frame} {meth : Method} {c : Code} {D : va_G} {b L : Nat} {xs : Nat → Int32} (hL : L ≤ 3072) (C : jc p s m #[Value.ref b] c code 7 RL wsL_law (fun q : Nat => s.heap.size ≤ q)) (hr : meth.sig.returnType = ret) (hlk : meth.locks = false) (hX : va_X b L xs s s.heap) (hbl : b < s.heap.size) (hxw : xw s) (hxz : xz (fun q : Nat => s.heap.size ≤ q) s s.heap) {I : Nat → GS → MS → Prop} (S_table : sm_table I 512) (a : Nat → Nat) (k : Nat → ClassId) (am : Nat → Nat) (km : Nat → ClassId) (qo : Nat) (ko : ClassId) (K : jk D (ltt k km ko) s) (j : Nat) (hjL : j < 512) (hj6 : 6 * j + 6 ≤ L) (v4 : Int32) (hv : v4 = nI (6 * j)) (gM : Nat → Int32) (gnC : Int32) (gbC : Nat → Int32) (gnL : Int32) (gbL : Nat → Int32) (gnF : Int32) (gbF : Nat → Int32) (gnQ : Int32) (gbQ : Nat → Int32) (gE : Nat → Nat → Int32) (gtp : Int32) (glf : Int32) (gtr : Int32) (glh : Int32) (gov : Int32) (mW : Nat → Int32) (mC : Nat → Int32) (mL : Nat → Int32) (mR : Nat → Int32) (mQ : Nat → Int32) (mE : Nat → Int32) (mtb : Int32) (mnC : Int32) (mnL : Int32) (mnR : Int32) (mov : Int32) (mnQ : Int32) (mwr : Int32) (mwl : Int32) (mft : Int32) (mth : Int32) (mpl : Int32) (out : Nat → Int64) (hI : I j (gM, gnC, gbC, gnL, gbL, gnF, gbF, gnQ, gbQ, gE, gtp, glf, gtr, glh, gov) (mW, mC, mL, mR, mQ, mE, mtb, mnC, mnL, mnR, mov, mnQ, mwr, mwl, mft, mth, mpl))
    (ih : ∀ (j2 : Nat) (gM : Nat → Int32) (gnC : Int32) (gbC : Nat → Int32) (gnL : Int32) (gbL : Nat → Int32) (gnF : Int32) (gbF : Nat → Int32) (gnQ : Int32) (gbQ : Nat → Int32) (gE : Nat → Nat → Int32) (gtp : Int32) (glf : Int32) (gtr : Int32) (glh : Int32) (gov : Int32) (mW : Nat → Int32) (mC : Nat → Int32) (mL : Nat → Int32) (mR : Nat → Int32) (mQ : Nat → Int32) (mE : Nat → Int32) (mtb : Int32) (mnC : Int32) (mnL : Int32) (mnR : Int32) (mov : Int32) (mnQ : Int32) (mwr : Int32) (mwl : Int32) (mft : Int32) (mth : Int32) (mpl : Int32) (out : Nat → Int64) (v4 : Int32), j2 = j + 1 → v4 = nI (6 * j2) → I j2 (gM, gnC, gbC, gnL, gbL, gnF, gbF, gnQ, gbQ, gE, gtp, glf, gtr, glh, gov) (mW, mC, mL, mR, mQ, mE, mtb, mnC, mnL, mnR, mov, mnQ, mwr, mwl, mft, mth, mpl) → jw p l e room_1 s m #[Value.ref b] below meth c 7 D (fun q : Nat => s.heap.size ≤ q) (30 + j2) (33300 + 6 * j2) (lw_Z below #[Value.ref b] s) (lww a k am km qo ko gM gnC gbC gnL gbL gnF gbF gnQ gbQ gE gtp glf gtr glh gov mW mC mL mR mQ mE mtb mnC mnL mnR mov mnQ mwr mwl mft mth mpl out) [(0, .ref b), (1, .ref (a 0)), (2, .ref (am 0)), (3, .ref qo), (4, .int v4)] 23 []) :
    jw p l e room_1 s m #[Value.ref b] below meth c 7 D (fun q : Nat => s.heap.size ≤ q) (30 + j) (33300 + 6 * j) (lw_Z below #[Value.ref b] s) (lww a k am km qo ko gM gnC gbC gnL gbL gnF gbF gnQ gbQ gE gtp glf gtr glh gov mW mC mL mR mQ mE mtb mnC mnL mnR mov mnQ mwr mwl mft mth mpl out) [(0, .ref b), (1, .ref (a 0)), (2, .ref (am 0)), (3, .ref qo), (4, .int v4)] 269 [] := by
  have hbA : ¬ (fun q : Nat => s.heap.size ≤ q) b := Nat.not_le.mpr hbl
  have hv1 : vp_in (v4 + 1) L := by rw [hv]; exact lawin hj6 (by omega) (k := 1) rfl (by omega)
  have hv2 : vp_in (v4 + 2) L := by rw [hv]; exact lawin hj6 (by omega) (k := 2) rfl (by omega)
  have hv3 : vp_in (v4 + 3) L := by rw [hv]; exact lawin hj6 (by omega) (k := 3) rfl (by omega)
  have hv4 : vp_in (v4 + 4) L := by rw [hv]; exact lawin hj6 (by omega) (k := 4) rfl (by omega)
  have hv5 : vp_in (v4 + 5) L := by rw [hv]; exact lawin hj6 (by omega) (k := 5) rfl (by omega)
  have hv6 : v4 + 6 = nI (6 * (j + 1)) := by rw [hv]; exact lawsix j
  refine j_aload_n (pc := 269) C 1 dL_law_269 rfl rfl ?_
  refine j_aload_n (pc := 270) C 0 dL_law_270 rfl rfl ?_
  refine j_iload (pc := 271) C 4 dL_law_271 rfl ?_
  refine j_iconst (pc := 273) (v := 1) C dL_law_273 (by decide) ?_
  refine j_iadd (pc := 274) C dL_law_274 ?_
  refine j_sld (pc := 275) C hX hbl hbA hv1 dL_law_275 ?_
  obtain ⟨rw1, rmw1, w1gtp, w1mtb, w1mth, hw1, hmw1, hIw1⟩ := S_table j _ _ _ _ _ _ _ _ _ _ _ _ _ _ _ _ _ _ _ _ _ _ _ _ _ _ _ _ _ _ _ _ (xs (v4 + 1).toNatClampNeg) hjL hI
  refine j_callVi (pc := 276) (As := [.int (xs (v4 + 1).toNatClampNeg)]) (rest := []) (ws' := (lww a k am km qo ko gM gnC gbC gnL gbL gnF gbF gnQ gbQ gE w1gtp glf gtr glh gov mW mC mL mR mQ mE mtb mnC mnL mnR mov mnQ mwr mwl mft mth mpl out)) C K (ci := 2) (q0 := 0) rfl rfl rfl (ctX2_table l D a k _ _ _ _ _ _ _ _ _ _ _ _ _ _ _ _ _ _ hw1) gL_law_X2_table rfl rfl rfl hdyX2_table ⟨Nat.le_of_ble_eq_true rfl, Nat.le_of_ble_eq_true rfl⟩ (List.range 19) rfl (by decide) (jspA rfl rfl) [0, 1, 2, 3, 4, 5] rfl rfl (Nat.le_of_ble_eq_true rfl) dL_law_276 ⟨by show 30 + j ≤ 601024; omega, by show 33300 + 6 * j ≤ 7293033; omega⟩ ?_
  refine j_pop (pc := 279) C dL_law_279 rfl ?_
  refine j_aload_n (pc := 280) C 2 dL_law_280 rfl rfl ?_
  refine j_aload_n (pc := 281) C 0 dL_law_281 rfl rfl ?_
  refine j_iload (pc := 282) C 4 dL_law_282 rfl ?_
  refine j_iconst (pc := 284) (v := 1) C dL_law_284 (by decide) ?_
  refine j_iadd (pc := 285) C dL_law_285 ?_
  refine j_sld (pc := 286) C hX hbl hbA hv1 dL_law_286 ?_
  refine j_callVi (pc := 287) (As := [.int (xs (v4 + 1).toNatClampNeg)]) (rest := []) (ws' := (lww a k am km qo ko gM gnC gbC gnL gbL gnF gbF gnQ gbQ gE w1gtp glf gtr glh gov mW mC mL mR mQ mE w1mtb mnC mnL mnR mov mnQ mwr mwl mft w1mth mpl out)) C K (ci := 3) (q0 := 0) rfl rfl rfl (ctX3_table l D am km _ _ _ _ _ _ _ _ _ _ _ _ _ _ _ _ _ _ _ _ _ hmw1) gL_law_X3_table rfl rfl rfl hdyX3_table ⟨Nat.le_of_ble_eq_true rfl, Nat.le_of_ble_eq_true rfl⟩ ((List.range 7).map (fun i => 19 + i)) rfl (by decide) (jspB rfl rfl rfl) [6, 7, 8, 9, 10, 11] rfl rfl (Nat.le_of_ble_eq_true rfl) dL_law_287 ⟨by show 30 + j ≤ 601024; omega, by show 33300 + 6 * j ≤ 7293033; omega⟩ ?_
  refine j_pop (pc := 290) C dL_law_290 rfl ?_
  refine j_goto (pc := 291) (tgt := 974) C dL_law_291 (by decide) ?_
  refine j_iinc (pc := 974) (v := (v4 + 6)) (lv' := [(4, .int (v4 + 6)), (0, .ref b), (1, .ref (a 0)), (2, .ref (am 0)), (3, .ref qo)]) C 4 dL_law_974 rfl rfl (by decide) rfl ?_
  refine j_goto (pc := 977) (tgt := 23) C dL_law_977 (by decide) ?_
  refine j_widen (k := 30 + (j + 1)) (n := 33300 + 6 * (j + 1)) (by omega) (by omega) ?_
  exact j_lv [1, 2, 3, 4, 0] rfl (ih (j + 1) _ _ _ _ _ _ _ _ _ _ _ _ _ _ _ _ _ _ _ _ _ _ _ _ _ _ _ _ _ _ _ _ _ _ (by omega) hv6 hIw1)
set_option maxHeartbeats 4000000 in
set_option maxRecDepth 100000 in
theorem lawc_context {p : Program} {l : Launch} (hlt : l.stackTraces = false) {e : Env} {s : State} {m : MethodId} {below : List Frame} {meth : Method} {c : Code} {D : va_G} {b L : Nat} {xs : Nat → Int32} (hL : L ≤ 3072) (C : jc p s m #[Value.ref b] c code 7 RL wsL_law (fun q : Nat => s.heap.size ≤ q)) (hr : meth.sig.returnType = ret) (hlk : meth.locks = false) (hX : va_X b L xs s s.heap) (hbl : b < s.heap.size) (hxw : xw s) (hxz : xz (fun q : Nat => s.heap.size ≤ q) s s.heap) {I : Nat → GS → MS → Prop} (S_context : sm_context I 512) (a : Nat → Nat) (k : Nat → ClassId) (am : Nat → Nat) (km : Nat → ClassId) (qo : Nat) (ko : ClassId) (K : jk D (ltt k km ko) s) (j : Nat) (hjL : j < 512) (hj6 : 6 * j + 6 ≤ L) (v4 : Int32) (hv : v4 = nI (6 * j)) (gM : Nat → Int32) (gnC : Int32) (gbC : Nat → Int32) (gnL : Int32) (gbL : Nat → Int32) (gnF : Int32) (gbF : Nat → Int32) (gnQ : Int32) (gbQ : Nat → Int32) (gE : Nat → Nat → Int32) (gtp : Int32) (glf : Int32) (gtr : Int32) (glh : Int32) (gov : Int32) (mW : Nat → Int32) (mC : Nat → Int32) (mL : Nat → Int32) (mR : Nat → Int32) (mQ : Nat → Int32) (mE : Nat → Int32) (mtb : Int32) (mnC : Int32) (mnL : Int32) (mnR : Int32) (mov : Int32) (mnQ : Int32) (mwr : Int32) (mwl : Int32) (mft : Int32) (mth : Int32) (mpl : Int32) (out : Nat → Int64) (hI : I j (gM, gnC, gbC, gnL, gbL, gnF, gbF, gnQ, gbQ, gE, gtp, glf, gtr, glh, gov) (mW, mC, mL, mR, mQ, mE, mtb, mnC, mnL, mnR, mov, mnQ, mwr, mwl, mft, mth, mpl))
    (ih : ∀ (j2 : Nat) (gM : Nat → Int32) (gnC : Int32) (gbC : Nat → Int32) (gnL : Int32) (gbL : Nat → Int32) (gnF : Int32) (gbF : Nat → Int32) (gnQ : Int32) (gbQ : Nat → Int32) (gE : Nat → Nat → Int32) (gtp : Int32) (glf : Int32) (gtr : Int32) (glh : Int32) (gov : Int32) (mW : Nat → Int32) (mC : Nat → Int32) (mL : Nat → Int32) (mR : Nat → Int32) (mQ : Nat → Int32) (mE : Nat → Int32) (mtb : Int32) (mnC : Int32) (mnL : Int32) (mnR : Int32) (mov : Int32) (mnQ : Int32) (mwr : Int32) (mwl : Int32) (mft : Int32) (mth : Int32) (mpl : Int32) (out : Nat → Int64) (v4 : Int32), j2 = j + 1 → v4 = nI (6 * j2) → I j2 (gM, gnC, gbC, gnL, gbL, gnF, gbF, gnQ, gbQ, gE, gtp, glf, gtr, glh, gov) (mW, mC, mL, mR, mQ, mE, mtb, mnC, mnL, mnR, mov, mnQ, mwr, mwl, mft, mth, mpl) → jw p l e room_1 s m #[Value.ref b] below meth c 7 D (fun q : Nat => s.heap.size ≤ q) (30 + j2) (33300 + 6 * j2) (lw_Z below #[Value.ref b] s) (lww a k am km qo ko gM gnC gbC gnL gbL gnF gbF gnQ gbQ gE gtp glf gtr glh gov mW mC mL mR mQ mE mtb mnC mnL mnR mov mnQ mwr mwl mft mth mpl out) [(0, .ref b), (1, .ref (a 0)), (2, .ref (am 0)), (3, .ref qo), (4, .int v4)] 23 []) :
    jw p l e room_1 s m #[Value.ref b] below meth c 7 D (fun q : Nat => s.heap.size ≤ q) (30 + j) (33300 + 6 * j) (lw_Z below #[Value.ref b] s) (lww a k am km qo ko gM gnC gbC gnL gbL gnF gbF gnQ gbQ gE gtp glf gtr glh gov mW mC mL mR mQ mE mtb mnC mnL mnR mov mnQ mwr mwl mft mth mpl out) [(0, .ref b), (1, .ref (a 0)), (2, .ref (am 0)), (3, .ref qo), (4, .int v4)] 294 [] := by
  have hbA : ¬ (fun q : Nat => s.heap.size ≤ q) b := Nat.not_le.mpr hbl
  have hv1 : vp_in (v4 + 1) L := by rw [hv]; exact lawin hj6 (by omega) (k := 1) rfl (by omega)
  have hv2 : vp_in (v4 + 2) L := by rw [hv]; exact lawin hj6 (by omega) (k := 2) rfl (by omega)
  have hv3 : vp_in (v4 + 3) L := by rw [hv]; exact lawin hj6 (by omega) (k := 3) rfl (by omega)
  have hv4 : vp_in (v4 + 4) L := by rw [hv]; exact lawin hj6 (by omega) (k := 4) rfl (by omega)
  have hv5 : vp_in (v4 + 5) L := by rw [hv]; exact lawin hj6 (by omega) (k := 5) rfl (by omega)
  have hv6 : v4 + 6 = nI (6 * (j + 1)) := by rw [hv]; exact lawsix j
  refine j_aload_n (pc := 294) C 1 dL_law_294 rfl rfl ?_
  refine j_aload_n (pc := 295) C 0 dL_law_295 rfl rfl ?_
  refine j_iload (pc := 296) C 4 dL_law_296 rfl ?_
  refine j_iconst (pc := 298) (v := 1) C dL_law_298 (by decide) ?_
  refine j_iadd (pc := 299) C dL_law_299 ?_
  refine j_sld (pc := 300) C hX hbl hbA hv1 dL_law_300 ?_
  refine j_aload_n (pc := 301) C 0 dL_law_301 rfl rfl ?_
  refine j_iload (pc := 302) C 4 dL_law_302 rfl ?_
  refine j_iconst (pc := 304) (v := 2) C dL_law_304 (by decide) ?_
  refine j_iadd (pc := 305) C dL_law_305 ?_
  refine j_sld (pc := 306) C hX hbl hbA hv2 dL_law_306 ?_
  refine j_if_eq (pc := 307) (tgt := 314) C dL_law_307 (by decide) (fun c1 => ?_) (fun c1 => ?_)
  · refine j_iconst (pc := 314) (v := 0) C dL_law_314 (by decide) ?_
    refine j_aload_n (pc := 315) C 0 dL_law_315 rfl rfl ?_
    refine j_iload (pc := 316) C 4 dL_law_316 rfl ?_
    refine j_iconst (pc := 318) (v := 3) C dL_law_318 (by decide) ?_
    refine j_iadd (pc := 319) C dL_law_319 ?_
    refine j_sld (pc := 320) C hX hbl hbA hv3 dL_law_320 ?_
    refine j_aload_n (pc := 321) C 0 dL_law_321 rfl rfl ?_
    refine j_iload (pc := 322) C 4 dL_law_322 rfl ?_
    refine j_iconst (pc := 324) (v := 4) C dL_law_324 (by decide) ?_
    refine j_iadd (pc := 325) C dL_law_325 ?_
    refine j_sld (pc := 326) C hX hbl hbA hv4 dL_law_326 ?_
    obtain ⟨rw2, rmw2, w2gM, w2mW, w2mth, hw2, hmw2, hIw2⟩ := S_context j _ _ _ _ _ _ _ _ _ _ _ _ _ _ _ _ _ _ _ _ _ _ _ _ _ _ _ _ _ _ _ _ (xs (v4 + 1).toNatClampNeg) 0 (xs (v4 + 3).toNatClampNeg) (xs (v4 + 4).toNatClampNeg) hjL hI
    refine j_callVi (pc := 327) (As := [.int (xs (v4 + 1).toNatClampNeg), .int 0, .int (xs (v4 + 3).toNatClampNeg), .int (xs (v4 + 4).toNatClampNeg)]) (rest := []) (ws' := (lww a k am km qo ko w2gM gnC gbC gnL gbL gnF gbF gnQ gbQ gE gtp glf gtr glh gov mW mC mL mR mQ mE mtb mnC mnL mnR mov mnQ mwr mwl mft mth mpl out)) C K (ci := 2) (q0 := 0) rfl rfl rfl (ctX2_context l D a k _ _ _ _ _ _ _ _ _ _ _ _ _ _ _ _ _ _ _ _ _ hw2) gL_law_X2_context rfl rfl rfl hdyX2_context ⟨Nat.le_of_ble_eq_true rfl, Nat.le_of_ble_eq_true rfl⟩ (List.range 19) rfl (by decide) (jspA rfl rfl) [0, 1, 2, 3, 4, 5] rfl rfl (Nat.le_of_ble_eq_true rfl) dL_law_327 ⟨by show 30 + j ≤ 601024; omega, by show 33300 + 6 * j ≤ 7293033; omega⟩ ?_
    refine j_pop (pc := 330) C dL_law_330 rfl ?_
    refine j_aload_n (pc := 331) C 2 dL_law_331 rfl rfl ?_
    refine j_aload_n (pc := 332) C 0 dL_law_332 rfl rfl ?_
    refine j_iload (pc := 333) C 4 dL_law_333 rfl ?_
    refine j_iconst (pc := 335) (v := 1) C dL_law_335 (by decide) ?_
    refine j_iadd (pc := 336) C dL_law_336 ?_
    refine j_sld (pc := 337) C hX hbl hbA hv1 dL_law_337 ?_
    refine j_aload_n (pc := 338) C 0 dL_law_338 rfl rfl ?_
    refine j_iload (pc := 339) C 4 dL_law_339 rfl ?_
    refine j_iconst (pc := 341) (v := 2) C dL_law_341 (by decide) ?_
    refine j_iadd (pc := 342) C dL_law_342 ?_
    refine j_sld (pc := 343) C hX hbl hbA hv2 dL_law_343 ?_
    refine j_if_eq (pc := 344) (tgt := 351) C dL_law_344 (by decide) (fun _ => ?_) (fun h => absurd c1 h)
    refine j_iconst (pc := 351) (v := 0) C dL_law_351 (by decide) ?_
    refine j_aload_n (pc := 352) C 0 dL_law_352 rfl rfl ?_
    refine j_iload (pc := 353) C 4 dL_law_353 rfl ?_
    refine j_iconst (pc := 355) (v := 3) C dL_law_355 (by decide) ?_
    refine j_iadd (pc := 356) C dL_law_356 ?_
    refine j_sld (pc := 357) C hX hbl hbA hv3 dL_law_357 ?_
    refine j_aload_n (pc := 358) C 0 dL_law_358 rfl rfl ?_
    refine j_iload (pc := 359) C 4 dL_law_359 rfl ?_
    refine j_iconst (pc := 361) (v := 4) C dL_law_361 (by decide) ?_
    refine j_iadd (pc := 362) C dL_law_362 ?_
    refine j_sld (pc := 363) C hX hbl hbA hv4 dL_law_363 ?_
    refine j_callVi (pc := 364) (As := [.int (xs (v4 + 1).toNatClampNeg), .int 0, .int (xs (v4 + 3).toNatClampNeg), .int (xs (v4 + 4).toNatClampNeg)]) (rest := []) (ws' := (lww a k am km qo ko w2gM gnC gbC gnL gbL gnF gbF gnQ gbQ gE gtp glf gtr glh gov w2mW mC mL mR mQ mE mtb mnC mnL mnR mov mnQ mwr mwl mft w2mth mpl out)) C K (ci := 3) (q0 := 0) rfl rfl rfl (ctX3_context l D am km _ _ _ _ _ _ _ _ _ _ _ _ _ _ _ _ _ _ _ _ _ _ _ _ hmw2) gL_law_X3_context rfl rfl rfl hdyX3_context ⟨Nat.le_of_ble_eq_true rfl, Nat.le_of_ble_eq_true rfl⟩ ((List.range 7).map (fun i => 19 + i)) rfl (by decide) (jspB rfl rfl rfl) [6, 7, 8, 9, 10, 11] rfl rfl (Nat.le_of_ble_eq_true rfl) dL_law_364 ⟨by show 30 + j ≤ 601024; omega, by show 33300 + 6 * j ≤ 7293033; omega⟩ ?_
    refine j_pop (pc := 367) C dL_law_367 rfl ?_
    refine j_goto (pc := 368) (tgt := 974) C dL_law_368 (by decide) ?_
    refine j_iinc (pc := 974) (v := (v4 + 6)) (lv' := [(4, .int (v4 + 6)), (0, .ref b), (1, .ref (a 0)), (2, .ref (am 0)), (3, .ref qo)]) C 4 dL_law_974 rfl rfl (by decide) rfl ?_
    refine j_goto (pc := 977) (tgt := 23) C dL_law_977 (by decide) ?_
    refine j_widen (k := 30 + (j + 1)) (n := 33300 + 6 * (j + 1)) (by omega) (by omega) ?_
    exact j_lv [1, 2, 3, 4, 0] rfl (ih (j + 1) _ _ _ _ _ _ _ _ _ _ _ _ _ _ _ _ _ _ _ _ _ _ _ _ _ _ _ _ _ _ _ _ _ _ (by omega) hv6 hIw2)
  · refine j_iconst (pc := 310) (v := 1) C dL_law_310 (by decide) ?_
    refine j_goto (pc := 311) (tgt := 315) C dL_law_311 (by decide) ?_
    refine j_aload_n (pc := 315) C 0 dL_law_315 rfl rfl ?_
    refine j_iload (pc := 316) C 4 dL_law_316 rfl ?_
    refine j_iconst (pc := 318) (v := 3) C dL_law_318 (by decide) ?_
    refine j_iadd (pc := 319) C dL_law_319 ?_
    refine j_sld (pc := 320) C hX hbl hbA hv3 dL_law_320 ?_
    refine j_aload_n (pc := 321) C 0 dL_law_321 rfl rfl ?_
    refine j_iload (pc := 322) C 4 dL_law_322 rfl ?_
    refine j_iconst (pc := 324) (v := 4) C dL_law_324 (by decide) ?_
    refine j_iadd (pc := 325) C dL_law_325 ?_
    refine j_sld (pc := 326) C hX hbl hbA hv4 dL_law_326 ?_
    obtain ⟨rw3, rmw3, w3gM, w3mW, w3mth, hw3, hmw3, hIw3⟩ := S_context j _ _ _ _ _ _ _ _ _ _ _ _ _ _ _ _ _ _ _ _ _ _ _ _ _ _ _ _ _ _ _ _ (xs (v4 + 1).toNatClampNeg) 1 (xs (v4 + 3).toNatClampNeg) (xs (v4 + 4).toNatClampNeg) hjL hI
    refine j_callVi (pc := 327) (As := [.int (xs (v4 + 1).toNatClampNeg), .int 1, .int (xs (v4 + 3).toNatClampNeg), .int (xs (v4 + 4).toNatClampNeg)]) (rest := []) (ws' := (lww a k am km qo ko w3gM gnC gbC gnL gbL gnF gbF gnQ gbQ gE gtp glf gtr glh gov mW mC mL mR mQ mE mtb mnC mnL mnR mov mnQ mwr mwl mft mth mpl out)) C K (ci := 2) (q0 := 0) rfl rfl rfl (ctX2_context l D a k _ _ _ _ _ _ _ _ _ _ _ _ _ _ _ _ _ _ _ _ _ hw3) gL_law_X2_context rfl rfl rfl hdyX2_context ⟨Nat.le_of_ble_eq_true rfl, Nat.le_of_ble_eq_true rfl⟩ (List.range 19) rfl (by decide) (jspA rfl rfl) [0, 1, 2, 3, 4, 5] rfl rfl (Nat.le_of_ble_eq_true rfl) dL_law_327 ⟨by show 30 + j ≤ 601024; omega, by show 33300 + 6 * j ≤ 7293033; omega⟩ ?_
    refine j_pop (pc := 330) C dL_law_330 rfl ?_
    refine j_aload_n (pc := 331) C 2 dL_law_331 rfl rfl ?_
    refine j_aload_n (pc := 332) C 0 dL_law_332 rfl rfl ?_
    refine j_iload (pc := 333) C 4 dL_law_333 rfl ?_
    refine j_iconst (pc := 335) (v := 1) C dL_law_335 (by decide) ?_
    refine j_iadd (pc := 336) C dL_law_336 ?_
    refine j_sld (pc := 337) C hX hbl hbA hv1 dL_law_337 ?_
    refine j_aload_n (pc := 338) C 0 dL_law_338 rfl rfl ?_
    refine j_iload (pc := 339) C 4 dL_law_339 rfl ?_
    refine j_iconst (pc := 341) (v := 2) C dL_law_341 (by decide) ?_
    refine j_iadd (pc := 342) C dL_law_342 ?_
    refine j_sld (pc := 343) C hX hbl hbA hv2 dL_law_343 ?_
    refine j_if_eq (pc := 344) (tgt := 351) C dL_law_344 (by decide) (fun h => absurd h c1) (fun _ => ?_)
    refine j_iconst (pc := 347) (v := 1) C dL_law_347 (by decide) ?_
    refine j_goto (pc := 348) (tgt := 352) C dL_law_348 (by decide) ?_
    refine j_aload_n (pc := 352) C 0 dL_law_352 rfl rfl ?_
    refine j_iload (pc := 353) C 4 dL_law_353 rfl ?_
    refine j_iconst (pc := 355) (v := 3) C dL_law_355 (by decide) ?_
    refine j_iadd (pc := 356) C dL_law_356 ?_
    refine j_sld (pc := 357) C hX hbl hbA hv3 dL_law_357 ?_
    refine j_aload_n (pc := 358) C 0 dL_law_358 rfl rfl ?_
    refine j_iload (pc := 359) C 4 dL_law_359 rfl ?_
    refine j_iconst (pc := 361) (v := 4) C dL_law_361 (by decide) ?_
    refine j_iadd (pc := 362) C dL_law_362 ?_
    refine j_sld (pc := 363) C hX hbl hbA hv4 dL_law_363 ?_
    refine j_callVi (pc := 364) (As := [.int (xs (v4 + 1).toNatClampNeg), .int 1, .int (xs (v4 + 3).toNatClampNeg), .int (xs (v4 + 4).toNatClampNeg)]) (rest := []) (ws' := (lww a k am km qo ko w3gM gnC gbC gnL gbL gnF gbF gnQ gbQ gE gtp glf gtr glh gov w3mW mC mL mR mQ mE mtb mnC mnL mnR mov mnQ mwr mwl mft w3mth mpl out)) C K (ci := 3) (q0 := 0) rfl rfl rfl (ctX3_context l D am km _ _ _ _ _ _ _ _ _ _ _ _ _ _ _ _ _ _ _ _ _ _ _ _ hmw3) gL_law_X3_context rfl rfl rfl hdyX3_context ⟨Nat.le_of_ble_eq_true rfl, Nat.le_of_ble_eq_true rfl⟩ ((List.range 7).map (fun i => 19 + i)) rfl (by decide) (jspB rfl rfl rfl) [6, 7, 8, 9, 10, 11] rfl rfl (Nat.le_of_ble_eq_true rfl) dL_law_364 ⟨by show 30 + j ≤ 601024; omega, by show 33300 + 6 * j ≤ 7293033; omega⟩ ?_
    refine j_pop (pc := 367) C dL_law_367 rfl ?_
    refine j_goto (pc := 368) (tgt := 974) C dL_law_368 (by decide) ?_
    refine j_iinc (pc := 974) (v := (v4 + 6)) (lv' := [(4, .int (v4 + 6)), (0, .ref b), (1, .ref (a 0)), (2, .ref (am 0)), (3, .ref qo)]) C 4 dL_law_974 rfl rfl (by decide) rfl ?_
    refine j_goto (pc := 977) (tgt := 23) C dL_law_977 (by decide) ?_
    refine j_widen (k := 30 + (j + 1)) (n := 33300 + 6 * (j + 1)) (by omega) (by omega) ?_
    exact j_lv [1, 2, 3, 4, 0] rfl (ih (j + 1) _ _ _ _ _ _ _ _ _ _ _ _ _ _ _ _ _ _ _ _ _ _ _ _ _ _ _ _ _ _ _ _ _ _ (by omega) hv6 hIw3)
set_option maxHeartbeats 4000000 in
set_option maxRecDepth 100000 in
theorem lawc_enter {p : Program} {l : Launch} (hlt : l.stackTraces = false) {e : Env} {s : State} {m : MethodId} {below : List Frame} {meth : Method} {c : Code} {D : va_G} {b L : Nat} {xs : Nat → Int32} (hL : L ≤ 3072) (C : jc p s m #[Value.ref b] c code 7 RL wsL_law (fun q : Nat => s.heap.size ≤ q)) (hr : meth.sig.returnType = ret) (hlk : meth.locks = false) (hX : va_X b L xs s s.heap) (hbl : b < s.heap.size) (hxw : xw s) (hxz : xz (fun q : Nat => s.heap.size ≤ q) s s.heap) {I : Nat → GS → MS → Prop} (S_enter : sm_enter I 512) (a : Nat → Nat) (k : Nat → ClassId) (am : Nat → Nat) (km : Nat → ClassId) (qo : Nat) (ko : ClassId) (K : jk D (ltt k km ko) s) (j : Nat) (hjL : j < 512) (hj6 : 6 * j + 6 ≤ L) (v4 : Int32) (hv : v4 = nI (6 * j)) (gM : Nat → Int32) (gnC : Int32) (gbC : Nat → Int32) (gnL : Int32) (gbL : Nat → Int32) (gnF : Int32) (gbF : Nat → Int32) (gnQ : Int32) (gbQ : Nat → Int32) (gE : Nat → Nat → Int32) (gtp : Int32) (glf : Int32) (gtr : Int32) (glh : Int32) (gov : Int32) (mW : Nat → Int32) (mC : Nat → Int32) (mL : Nat → Int32) (mR : Nat → Int32) (mQ : Nat → Int32) (mE : Nat → Int32) (mtb : Int32) (mnC : Int32) (mnL : Int32) (mnR : Int32) (mov : Int32) (mnQ : Int32) (mwr : Int32) (mwl : Int32) (mft : Int32) (mth : Int32) (mpl : Int32) (out : Nat → Int64) (hI : I j (gM, gnC, gbC, gnL, gbL, gnF, gbF, gnQ, gbQ, gE, gtp, glf, gtr, glh, gov) (mW, mC, mL, mR, mQ, mE, mtb, mnC, mnL, mnR, mov, mnQ, mwr, mwl, mft, mth, mpl))
    (ih : ∀ (j2 : Nat) (gM : Nat → Int32) (gnC : Int32) (gbC : Nat → Int32) (gnL : Int32) (gbL : Nat → Int32) (gnF : Int32) (gbF : Nat → Int32) (gnQ : Int32) (gbQ : Nat → Int32) (gE : Nat → Nat → Int32) (gtp : Int32) (glf : Int32) (gtr : Int32) (glh : Int32) (gov : Int32) (mW : Nat → Int32) (mC : Nat → Int32) (mL : Nat → Int32) (mR : Nat → Int32) (mQ : Nat → Int32) (mE : Nat → Int32) (mtb : Int32) (mnC : Int32) (mnL : Int32) (mnR : Int32) (mov : Int32) (mnQ : Int32) (mwr : Int32) (mwl : Int32) (mft : Int32) (mth : Int32) (mpl : Int32) (out : Nat → Int64) (v4 : Int32), j2 = j + 1 → v4 = nI (6 * j2) → I j2 (gM, gnC, gbC, gnL, gbL, gnF, gbF, gnQ, gbQ, gE, gtp, glf, gtr, glh, gov) (mW, mC, mL, mR, mQ, mE, mtb, mnC, mnL, mnR, mov, mnQ, mwr, mwl, mft, mth, mpl) → jw p l e room_1 s m #[Value.ref b] below meth c 7 D (fun q : Nat => s.heap.size ≤ q) (30 + j2) (33300 + 6 * j2) (lw_Z below #[Value.ref b] s) (lww a k am km qo ko gM gnC gbC gnL gbL gnF gbF gnQ gbQ gE gtp glf gtr glh gov mW mC mL mR mQ mE mtb mnC mnL mnR mov mnQ mwr mwl mft mth mpl out) [(0, .ref b), (1, .ref (a 0)), (2, .ref (am 0)), (3, .ref qo), (4, .int v4)] 23 []) :
    jw p l e room_1 s m #[Value.ref b] below meth c 7 D (fun q : Nat => s.heap.size ≤ q) (30 + j) (33300 + 6 * j) (lw_Z below #[Value.ref b] s) (lww a k am km qo ko gM gnC gbC gnL gbL gnF gbF gnQ gbQ gE gtp glf gtr glh gov mW mC mL mR mQ mE mtb mnC mnL mnR mov mnQ mwr mwl mft mth mpl out) [(0, .ref b), (1, .ref (a 0)), (2, .ref (am 0)), (3, .ref qo), (4, .int v4)] 371 [] := by
  have hbA : ¬ (fun q : Nat => s.heap.size ≤ q) b := Nat.not_le.mpr hbl
  have hv1 : vp_in (v4 + 1) L := by rw [hv]; exact lawin hj6 (by omega) (k := 1) rfl (by omega)
  have hv2 : vp_in (v4 + 2) L := by rw [hv]; exact lawin hj6 (by omega) (k := 2) rfl (by omega)
  have hv3 : vp_in (v4 + 3) L := by rw [hv]; exact lawin hj6 (by omega) (k := 3) rfl (by omega)
  have hv4 : vp_in (v4 + 4) L := by rw [hv]; exact lawin hj6 (by omega) (k := 4) rfl (by omega)
  have hv5 : vp_in (v4 + 5) L := by rw [hv]; exact lawin hj6 (by omega) (k := 5) rfl (by omega)
  have hv6 : v4 + 6 = nI (6 * (j + 1)) := by rw [hv]; exact lawsix j
  refine j_aload_n (pc := 371) C 1 dL_law_371 rfl rfl ?_
  refine j_aload_n (pc := 372) C 0 dL_law_372 rfl rfl ?_
  refine j_iload (pc := 373) C 4 dL_law_373 rfl ?_
  refine j_iconst (pc := 375) (v := 1) C dL_law_375 (by decide) ?_
  refine j_iadd (pc := 376) C dL_law_376 ?_
  refine j_sld (pc := 377) C hX hbl hbA hv1 dL_law_377 ?_
  refine j_aload_n (pc := 378) C 0 dL_law_378 rfl rfl ?_
  refine j_iload (pc := 379) C 4 dL_law_379 rfl ?_
  refine j_iconst (pc := 381) (v := 2) C dL_law_381 (by decide) ?_
  refine j_iadd (pc := 382) C dL_law_382 ?_
  refine j_sld (pc := 383) C hX hbl hbA hv2 dL_law_383 ?_
  refine j_aload_n (pc := 384) C 0 dL_law_384 rfl rfl ?_
  refine j_iload (pc := 385) C 4 dL_law_385 rfl ?_
  refine j_iconst (pc := 387) (v := 3) C dL_law_387 (by decide) ?_
  refine j_iadd (pc := 388) C dL_law_388 ?_
  refine j_sld (pc := 389) C hX hbl hbA hv3 dL_law_389 ?_
  refine j_aload_n (pc := 390) C 0 dL_law_390 rfl rfl ?_
  refine j_iload (pc := 391) C 4 dL_law_391 rfl ?_
  refine j_iconst (pc := 393) (v := 4) C dL_law_393 (by decide) ?_
  refine j_iadd (pc := 394) C dL_law_394 ?_
  refine j_sld (pc := 395) C hX hbl hbA hv4 dL_law_395 ?_
  refine j_if_eq (pc := 396) (tgt := 403) C dL_law_396 (by decide) (fun c1 => ?_) (fun c1 => ?_)
  · refine j_iconst (pc := 403) (v := 0) C dL_law_403 (by decide) ?_
    refine j_aload_n (pc := 404) C 0 dL_law_404 rfl rfl ?_
    refine j_iload (pc := 405) C 4 dL_law_405 rfl ?_
    refine j_iconst (pc := 407) (v := 5) C dL_law_407 (by decide) ?_
    refine j_iadd (pc := 408) C dL_law_408 ?_
    refine j_sld (pc := 409) C hX hbl hbA hv5 dL_law_409 ?_
    obtain ⟨rw2, rmw2, w2gM, w2mW, w2mth, hw2, hmw2, hIw2⟩ := S_enter j _ _ _ _ _ _ _ _ _ _ _ _ _ _ _ _ _ _ _ _ _ _ _ _ _ _ _ _ _ _ _ _ (xs (v4 + 1).toNatClampNeg) (xs (v4 + 2).toNatClampNeg) (xs (v4 + 3).toNatClampNeg) 0 (xs (v4 + 5).toNatClampNeg) hjL hI
    refine j_callVi (pc := 410) (As := [.int (xs (v4 + 1).toNatClampNeg), .int (xs (v4 + 2).toNatClampNeg), .int (xs (v4 + 3).toNatClampNeg), .int 0, .int (xs (v4 + 5).toNatClampNeg)]) (rest := []) (ws' := (lww a k am km qo ko w2gM gnC gbC gnL gbL gnF gbF gnQ gbQ gE gtp glf gtr glh gov mW mC mL mR mQ mE mtb mnC mnL mnR mov mnQ mwr mwl mft mth mpl out)) C K (ci := 2) (q0 := 0) rfl rfl rfl (ctX2_enter l D a k _ _ _ _ _ _ _ _ _ _ _ _ _ _ _ _ _ _ _ _ _ _ hw2) gL_law_X2_enter rfl rfl rfl hdyX2_enter ⟨Nat.le_of_ble_eq_true rfl, Nat.le_of_ble_eq_true rfl⟩ (List.range 19) rfl (by decide) (jspA rfl rfl) [0, 1, 2, 3, 4, 5] rfl rfl (Nat.le_of_ble_eq_true rfl) dL_law_410 ⟨by show 30 + j ≤ 601024; omega, by show 33300 + 6 * j ≤ 7293033; omega⟩ ?_
    refine j_pop (pc := 413) C dL_law_413 rfl ?_
    refine j_aload_n (pc := 414) C 2 dL_law_414 rfl rfl ?_
    refine j_aload_n (pc := 415) C 0 dL_law_415 rfl rfl ?_
    refine j_iload (pc := 416) C 4 dL_law_416 rfl ?_
    refine j_iconst (pc := 418) (v := 1) C dL_law_418 (by decide) ?_
    refine j_iadd (pc := 419) C dL_law_419 ?_
    refine j_sld (pc := 420) C hX hbl hbA hv1 dL_law_420 ?_
    refine j_aload_n (pc := 421) C 0 dL_law_421 rfl rfl ?_
    refine j_iload (pc := 422) C 4 dL_law_422 rfl ?_
    refine j_iconst (pc := 424) (v := 2) C dL_law_424 (by decide) ?_
    refine j_iadd (pc := 425) C dL_law_425 ?_
    refine j_sld (pc := 426) C hX hbl hbA hv2 dL_law_426 ?_
    refine j_aload_n (pc := 427) C 0 dL_law_427 rfl rfl ?_
    refine j_iload (pc := 428) C 4 dL_law_428 rfl ?_
    refine j_iconst (pc := 430) (v := 3) C dL_law_430 (by decide) ?_
    refine j_iadd (pc := 431) C dL_law_431 ?_
    refine j_sld (pc := 432) C hX hbl hbA hv3 dL_law_432 ?_
    refine j_aload_n (pc := 433) C 0 dL_law_433 rfl rfl ?_
    refine j_iload (pc := 434) C 4 dL_law_434 rfl ?_
    refine j_iconst (pc := 436) (v := 4) C dL_law_436 (by decide) ?_
    refine j_iadd (pc := 437) C dL_law_437 ?_
    refine j_sld (pc := 438) C hX hbl hbA hv4 dL_law_438 ?_
    refine j_if_eq (pc := 439) (tgt := 446) C dL_law_439 (by decide) (fun _ => ?_) (fun h => absurd c1 h)
    refine j_iconst (pc := 446) (v := 0) C dL_law_446 (by decide) ?_
    refine j_aload_n (pc := 447) C 0 dL_law_447 rfl rfl ?_
    refine j_iload (pc := 448) C 4 dL_law_448 rfl ?_
    refine j_iconst (pc := 450) (v := 5) C dL_law_450 (by decide) ?_
    refine j_iadd (pc := 451) C dL_law_451 ?_
    refine j_sld (pc := 452) C hX hbl hbA hv5 dL_law_452 ?_
    refine j_callVi (pc := 453) (As := [.int (xs (v4 + 1).toNatClampNeg), .int (xs (v4 + 2).toNatClampNeg), .int (xs (v4 + 3).toNatClampNeg), .int 0, .int (xs (v4 + 5).toNatClampNeg)]) (rest := []) (ws' := (lww a k am km qo ko w2gM gnC gbC gnL gbL gnF gbF gnQ gbQ gE gtp glf gtr glh gov w2mW mC mL mR mQ mE mtb mnC mnL mnR mov mnQ mwr mwl mft w2mth mpl out)) C K (ci := 3) (q0 := 0) rfl rfl rfl (ctX3_enter l D am km _ _ _ _ _ _ _ _ _ _ _ _ _ _ _ _ _ _ _ _ _ _ _ _ _ hmw2) gL_law_X3_enter rfl rfl rfl hdyX3_enter ⟨Nat.le_of_ble_eq_true rfl, Nat.le_of_ble_eq_true rfl⟩ ((List.range 7).map (fun i => 19 + i)) rfl (by decide) (jspB rfl rfl rfl) [6, 7, 8, 9, 10, 11] rfl rfl (Nat.le_of_ble_eq_true rfl) dL_law_453 ⟨by show 30 + j ≤ 601024; omega, by show 33300 + 6 * j ≤ 7293033; omega⟩ ?_
    refine j_pop (pc := 456) C dL_law_456 rfl ?_
    refine j_goto (pc := 457) (tgt := 974) C dL_law_457 (by decide) ?_
    refine j_iinc (pc := 974) (v := (v4 + 6)) (lv' := [(4, .int (v4 + 6)), (0, .ref b), (1, .ref (a 0)), (2, .ref (am 0)), (3, .ref qo)]) C 4 dL_law_974 rfl rfl (by decide) rfl ?_
    refine j_goto (pc := 977) (tgt := 23) C dL_law_977 (by decide) ?_
    refine j_widen (k := 30 + (j + 1)) (n := 33300 + 6 * (j + 1)) (by omega) (by omega) ?_
    exact j_lv [1, 2, 3, 4, 0] rfl (ih (j + 1) _ _ _ _ _ _ _ _ _ _ _ _ _ _ _ _ _ _ _ _ _ _ _ _ _ _ _ _ _ _ _ _ _ _ (by omega) hv6 hIw2)
  · refine j_iconst (pc := 399) (v := 1) C dL_law_399 (by decide) ?_
    refine j_goto (pc := 400) (tgt := 404) C dL_law_400 (by decide) ?_
    refine j_aload_n (pc := 404) C 0 dL_law_404 rfl rfl ?_
    refine j_iload (pc := 405) C 4 dL_law_405 rfl ?_
    refine j_iconst (pc := 407) (v := 5) C dL_law_407 (by decide) ?_
    refine j_iadd (pc := 408) C dL_law_408 ?_
    refine j_sld (pc := 409) C hX hbl hbA hv5 dL_law_409 ?_
    obtain ⟨rw3, rmw3, w3gM, w3mW, w3mth, hw3, hmw3, hIw3⟩ := S_enter j _ _ _ _ _ _ _ _ _ _ _ _ _ _ _ _ _ _ _ _ _ _ _ _ _ _ _ _ _ _ _ _ (xs (v4 + 1).toNatClampNeg) (xs (v4 + 2).toNatClampNeg) (xs (v4 + 3).toNatClampNeg) 1 (xs (v4 + 5).toNatClampNeg) hjL hI
    refine j_callVi (pc := 410) (As := [.int (xs (v4 + 1).toNatClampNeg), .int (xs (v4 + 2).toNatClampNeg), .int (xs (v4 + 3).toNatClampNeg), .int 1, .int (xs (v4 + 5).toNatClampNeg)]) (rest := []) (ws' := (lww a k am km qo ko w3gM gnC gbC gnL gbL gnF gbF gnQ gbQ gE gtp glf gtr glh gov mW mC mL mR mQ mE mtb mnC mnL mnR mov mnQ mwr mwl mft mth mpl out)) C K (ci := 2) (q0 := 0) rfl rfl rfl (ctX2_enter l D a k _ _ _ _ _ _ _ _ _ _ _ _ _ _ _ _ _ _ _ _ _ _ hw3) gL_law_X2_enter rfl rfl rfl hdyX2_enter ⟨Nat.le_of_ble_eq_true rfl, Nat.le_of_ble_eq_true rfl⟩ (List.range 19) rfl (by decide) (jspA rfl rfl) [0, 1, 2, 3, 4, 5] rfl rfl (Nat.le_of_ble_eq_true rfl) dL_law_410 ⟨by show 30 + j ≤ 601024; omega, by show 33300 + 6 * j ≤ 7293033; omega⟩ ?_
    refine j_pop (pc := 413) C dL_law_413 rfl ?_
    refine j_aload_n (pc := 414) C 2 dL_law_414 rfl rfl ?_
    refine j_aload_n (pc := 415) C 0 dL_law_415 rfl rfl ?_
    refine j_iload (pc := 416) C 4 dL_law_416 rfl ?_
    refine j_iconst (pc := 418) (v := 1) C dL_law_418 (by decide) ?_
    refine j_iadd (pc := 419) C dL_law_419 ?_
    refine j_sld (pc := 420) C hX hbl hbA hv1 dL_law_420 ?_
    refine j_aload_n (pc := 421) C 0 dL_law_421 rfl rfl ?_
    refine j_iload (pc := 422) C 4 dL_law_422 rfl ?_
    refine j_iconst (pc := 424) (v := 2) C dL_law_424 (by decide) ?_
    refine j_iadd (pc := 425) C dL_law_425 ?_
    refine j_sld (pc := 426) C hX hbl hbA hv2 dL_law_426 ?_
    refine j_aload_n (pc := 427) C 0 dL_law_427 rfl rfl ?_
    refine j_iload (pc := 428) C 4 dL_law_428 rfl ?_
    refine j_iconst (pc := 430) (v := 3) C dL_law_430 (by decide) ?_
    refine j_iadd (pc := 431) C dL_law_431 ?_
    refine j_sld (pc := 432) C hX hbl hbA hv3 dL_law_432 ?_
    refine j_aload_n (pc := 433) C 0 dL_law_433 rfl rfl ?_
    refine j_iload (pc := 434) C 4 dL_law_434 rfl ?_
    refine j_iconst (pc := 436) (v := 4) C dL_law_436 (by decide) ?_
    refine j_iadd (pc := 437) C dL_law_437 ?_
    refine j_sld (pc := 438) C hX hbl hbA hv4 dL_law_438 ?_
    refine j_if_eq (pc := 439) (tgt := 446) C dL_law_439 (by decide) (fun h => absurd h c1) (fun _ => ?_)
    refine j_iconst (pc := 442) (v := 1) C dL_law_442 (by decide) ?_
    refine j_goto (pc := 443) (tgt := 447) C dL_law_443 (by decide) ?_
    refine j_aload_n (pc := 447) C 0 dL_law_447 rfl rfl ?_
    refine j_iload (pc := 448) C 4 dL_law_448 rfl ?_
    refine j_iconst (pc := 450) (v := 5) C dL_law_450 (by decide) ?_
    refine j_iadd (pc := 451) C dL_law_451 ?_
    refine j_sld (pc := 452) C hX hbl hbA hv5 dL_law_452 ?_
    refine j_callVi (pc := 453) (As := [.int (xs (v4 + 1).toNatClampNeg), .int (xs (v4 + 2).toNatClampNeg), .int (xs (v4 + 3).toNatClampNeg), .int 1, .int (xs (v4 + 5).toNatClampNeg)]) (rest := []) (ws' := (lww a k am km qo ko w3gM gnC gbC gnL gbL gnF gbF gnQ gbQ gE gtp glf gtr glh gov w3mW mC mL mR mQ mE mtb mnC mnL mnR mov mnQ mwr mwl mft w3mth mpl out)) C K (ci := 3) (q0 := 0) rfl rfl rfl (ctX3_enter l D am km _ _ _ _ _ _ _ _ _ _ _ _ _ _ _ _ _ _ _ _ _ _ _ _ _ hmw3) gL_law_X3_enter rfl rfl rfl hdyX3_enter ⟨Nat.le_of_ble_eq_true rfl, Nat.le_of_ble_eq_true rfl⟩ ((List.range 7).map (fun i => 19 + i)) rfl (by decide) (jspB rfl rfl rfl) [6, 7, 8, 9, 10, 11] rfl rfl (Nat.le_of_ble_eq_true rfl) dL_law_453 ⟨by show 30 + j ≤ 601024; omega, by show 33300 + 6 * j ≤ 7293033; omega⟩ ?_
    refine j_pop (pc := 456) C dL_law_456 rfl ?_
    refine j_goto (pc := 457) (tgt := 974) C dL_law_457 (by decide) ?_
    refine j_iinc (pc := 974) (v := (v4 + 6)) (lv' := [(4, .int (v4 + 6)), (0, .ref b), (1, .ref (a 0)), (2, .ref (am 0)), (3, .ref qo)]) C 4 dL_law_974 rfl rfl (by decide) rfl ?_
    refine j_goto (pc := 977) (tgt := 23) C dL_law_977 (by decide) ?_
    refine j_widen (k := 30 + (j + 1)) (n := 33300 + 6 * (j + 1)) (by omega) (by omega) ?_
    exact j_lv [1, 2, 3, 4, 0] rfl (ih (j + 1) _ _ _ _ _ _ _ _ _ _ _ _ _ _ _ _ _ _ _ _ _ _ _ _ _ _ _ _ _ _ _ _ _ _ (by omega) hv6 hIw3)
set_option maxHeartbeats 4000000 in
set_option maxRecDepth 100000 in
theorem lawc_read {p : Program} {l : Launch} (hlt : l.stackTraces = false) {e : Env} {s : State} {m : MethodId} {below : List Frame} {meth : Method} {c : Code} {D : va_G} {b L : Nat} {xs : Nat → Int32} (hL : L ≤ 3072) (C : jc p s m #[Value.ref b] c code 7 RL wsL_law (fun q : Nat => s.heap.size ≤ q)) (hr : meth.sig.returnType = ret) (hlk : meth.locks = false) (hX : va_X b L xs s s.heap) (hbl : b < s.heap.size) (hxw : xw s) (hxz : xz (fun q : Nat => s.heap.size ≤ q) s s.heap) {I : Nat → GS → MS → Prop} (S_read : sm_read I 512) (a : Nat → Nat) (k : Nat → ClassId) (am : Nat → Nat) (km : Nat → ClassId) (qo : Nat) (ko : ClassId) (K : jk D (ltt k km ko) s) (j : Nat) (hjL : j < 512) (hj6 : 6 * j + 6 ≤ L) (v4 : Int32) (hv : v4 = nI (6 * j)) (gM : Nat → Int32) (gnC : Int32) (gbC : Nat → Int32) (gnL : Int32) (gbL : Nat → Int32) (gnF : Int32) (gbF : Nat → Int32) (gnQ : Int32) (gbQ : Nat → Int32) (gE : Nat → Nat → Int32) (gtp : Int32) (glf : Int32) (gtr : Int32) (glh : Int32) (gov : Int32) (mW : Nat → Int32) (mC : Nat → Int32) (mL : Nat → Int32) (mR : Nat → Int32) (mQ : Nat → Int32) (mE : Nat → Int32) (mtb : Int32) (mnC : Int32) (mnL : Int32) (mnR : Int32) (mov : Int32) (mnQ : Int32) (mwr : Int32) (mwl : Int32) (mft : Int32) (mth : Int32) (mpl : Int32) (out : Nat → Int64) (hI : I j (gM, gnC, gbC, gnL, gbL, gnF, gbF, gnQ, gbQ, gE, gtp, glf, gtr, glh, gov) (mW, mC, mL, mR, mQ, mE, mtb, mnC, mnL, mnR, mov, mnQ, mwr, mwl, mft, mth, mpl))
    (ih : ∀ (j2 : Nat) (gM : Nat → Int32) (gnC : Int32) (gbC : Nat → Int32) (gnL : Int32) (gbL : Nat → Int32) (gnF : Int32) (gbF : Nat → Int32) (gnQ : Int32) (gbQ : Nat → Int32) (gE : Nat → Nat → Int32) (gtp : Int32) (glf : Int32) (gtr : Int32) (glh : Int32) (gov : Int32) (mW : Nat → Int32) (mC : Nat → Int32) (mL : Nat → Int32) (mR : Nat → Int32) (mQ : Nat → Int32) (mE : Nat → Int32) (mtb : Int32) (mnC : Int32) (mnL : Int32) (mnR : Int32) (mov : Int32) (mnQ : Int32) (mwr : Int32) (mwl : Int32) (mft : Int32) (mth : Int32) (mpl : Int32) (out : Nat → Int64) (v4 : Int32), j2 = j + 1 → v4 = nI (6 * j2) → I j2 (gM, gnC, gbC, gnL, gbL, gnF, gbF, gnQ, gbQ, gE, gtp, glf, gtr, glh, gov) (mW, mC, mL, mR, mQ, mE, mtb, mnC, mnL, mnR, mov, mnQ, mwr, mwl, mft, mth, mpl) → jw p l e room_1 s m #[Value.ref b] below meth c 7 D (fun q : Nat => s.heap.size ≤ q) (30 + j2) (33300 + 6 * j2) (lw_Z below #[Value.ref b] s) (lww a k am km qo ko gM gnC gbC gnL gbL gnF gbF gnQ gbQ gE gtp glf gtr glh gov mW mC mL mR mQ mE mtb mnC mnL mnR mov mnQ mwr mwl mft mth mpl out) [(0, .ref b), (1, .ref (a 0)), (2, .ref (am 0)), (3, .ref qo), (4, .int v4)] 23 []) :
    jw p l e room_1 s m #[Value.ref b] below meth c 7 D (fun q : Nat => s.heap.size ≤ q) (30 + j) (33300 + 6 * j) (lw_Z below #[Value.ref b] s) (lww a k am km qo ko gM gnC gbC gnL gbL gnF gbF gnQ gbQ gE gtp glf gtr glh gov mW mC mL mR mQ mE mtb mnC mnL mnR mov mnQ mwr mwl mft mth mpl out) [(0, .ref b), (1, .ref (a 0)), (2, .ref (am 0)), (3, .ref qo), (4, .int v4)] 460 [] := by
  have hbA : ¬ (fun q : Nat => s.heap.size ≤ q) b := Nat.not_le.mpr hbl
  have hv1 : vp_in (v4 + 1) L := by rw [hv]; exact lawin hj6 (by omega) (k := 1) rfl (by omega)
  have hv2 : vp_in (v4 + 2) L := by rw [hv]; exact lawin hj6 (by omega) (k := 2) rfl (by omega)
  have hv3 : vp_in (v4 + 3) L := by rw [hv]; exact lawin hj6 (by omega) (k := 3) rfl (by omega)
  have hv4 : vp_in (v4 + 4) L := by rw [hv]; exact lawin hj6 (by omega) (k := 4) rfl (by omega)
  have hv5 : vp_in (v4 + 5) L := by rw [hv]; exact lawin hj6 (by omega) (k := 5) rfl (by omega)
  have hv6 : v4 + 6 = nI (6 * (j + 1)) := by rw [hv]; exact lawsix j
  refine j_aload_n (pc := 460) C 1 dL_law_460 rfl rfl ?_
  refine j_aload_n (pc := 461) C 0 dL_law_461 rfl rfl ?_
  refine j_iload (pc := 462) C 4 dL_law_462 rfl ?_
  refine j_iconst (pc := 464) (v := 1) C dL_law_464 (by decide) ?_
  refine j_iadd (pc := 465) C dL_law_465 ?_
  refine j_sld (pc := 466) C hX hbl hbA hv1 dL_law_466 ?_
  refine j_aload_n (pc := 467) C 0 dL_law_467 rfl rfl ?_
  refine j_iload (pc := 468) C 4 dL_law_468 rfl ?_
  refine j_iconst (pc := 470) (v := 2) C dL_law_470 (by decide) ?_
  refine j_iadd (pc := 471) C dL_law_471 ?_
  refine j_sld (pc := 472) C hX hbl hbA hv2 dL_law_472 ?_
  refine j_aload_n (pc := 473) C 3 dL_law_473 rfl rfl ?_
  rcases S_read j _ _ _ _ _ _ _ _ _ _ _ _ _ _ _ _ _ _ _ _ _ _ _ _ _ _ _ _ _ _ _ _ (xs (v4 + 1).toNatClampNeg) (xs (v4 + 2).toNatClampNeg) hjL hI with ⟨rw1, rmw1, w1gnC, w1gbC, w1gnL, w1gbL, w1gnF, w1gbF, w1glf, w1gtr, w1glh, w1gov, w1mC, w1mL, w1mR, w1mnC, w1mnL, w1mnR, w1mov, w1mwr, w1mwl, w1mft, w1mth, w1mpl, hw1, hmw1, htw1, hew1, hIw1⟩ | ⟨rmw1, w1mC, w1mL, w1mR, w1mnC, w1mnL, w1mnR, w1mov, w1mwr, w1mwl, w1mft, w1mth, w1mpl, hw1, hmw1, htw1, hIw1⟩
  · refine j_callSM (pc := 474) (As := [.ref (a 0), .int (xs (v4 + 1).toNatClampNeg), .int (xs (v4 + 2).toNatClampNeg), .ref qo]) (rest := []) (ws' := (lww a k am km qo ko gM w1gnC w1gbC w1gnL w1gbL w1gnF w1gbF gnQ gbQ gE gtp w1glf w1gtr w1glh w1gov mW mC mL mR mQ mE mtb mnC mnL mnR mov mnQ mwr mwl mft mth mpl (vp_updL out (0 : Int32).toNatClampNeg rw1.toInt64))) C K hxw hxz (ctL_read_ret l D a k _ _ _ _ _ _ _ _ _ _ _ _ _ _ _ qo ko out _ _ _ _ _ _ _ _ _ _ _ _ _ hw1) gL_law_L_read rfl rfl rfl hdyL_read ⟨Nat.le_of_ble_eq_true rfl, Nat.le_of_ble_eq_true rfl⟩ (List.range 19 ++ (List.range 1).map (fun i => (19 + 7) + i)) rfl (by decide) (jspH rfl rfl rfl rfl rfl) [0, 1, 2, 3, 4, 5, 12] rfl rfl (Nat.le_of_ble_eq_true rfl) dL_law_474 ⟨by show 30 + j + 1 ≤ 601024; omega, by show 33300 + 6 * j + 6 ≤ 7293033; omega⟩ ?_
    refine j_istore (pc := 477) (lv' := [(5, .int 0), (0, .ref b), (1, .ref (a 0)), (2, .ref (am 0)), (3, .ref qo), (4, .int v4)]) C dL_law_477 (by decide) rfl ?_
    refine j_aload_n (pc := 479) C 3 dL_law_479 rfl rfl ?_
    refine j_aload_n (pc := 480) C 1 dL_law_480 rfl rfl ?_
    refine j_iload (pc := 481) C 5 dL_law_481 rfl ?_
    refine j_iconst (pc := 483) (v := 1) C dL_law_483 (by decide) ?_
    refine j_iadd (pc := 484) C dL_law_484 ?_
    refine j_sld (pc := 485) C hX hbl hbA hv1 dL_law_485 ?_
    refine j_aload_n (pc := 486) C 1 dL_law_486 rfl rfl ?_
    refine j_iload (pc := 487) C 5 dL_law_487 rfl ?_
    refine j_iconst (pc := 489) (v := 2) C dL_law_489 (by decide) ?_
    refine j_iadd (pc := 490) C dL_law_490 ?_
    refine j_sld (pc := 491) C hX hbl hbA hv2 dL_law_491 ?_
    refine j_callVi (pc := 492) (As := [.int (xs (v4 + 1).toNatClampNeg), .int (xs (v4 + 2).toNatClampNeg)]) (rest := []) (ws' := (lww a k am km qo ko gM w1gnC w1gbC w1gnL w1gbL w1gnF w1gbF gnQ gbQ gE gtp w1glf w1gtr w1glh w1gov mW w1mC w1mL w1mR mQ mE mtb w1mnC w1mnL w1mnR w1mov mnQ w1mwr w1mwl w1mft w1mth w1mpl (vp_updL out (0 : Int32).toNatClampNeg rw1.toInt64))) C K (ci := 3) (q0 := 0) rfl rfl rfl (ctX3_read l D am km _ _ _ _ _ _ _ _ _ _ _ _ _ _ _ _ _ _ _ _ _ _ _ _ _ _ _ _ _ _ _ _ hmw1) gL_law_X3_read rfl rfl rfl hdyX3_read ⟨Nat.le_of_ble_eq_true rfl, Nat.le_of_ble_eq_true rfl⟩ ((List.range 7).map (fun i => 19 + i)) rfl (by decide) (jspB rfl rfl rfl) [6, 7, 8, 9, 10, 11] rfl rfl (Nat.le_of_ble_eq_true rfl) dL_law_492 ⟨by show 30 + j + 1 ≤ 601024; omega, by show 33300 + 6 * j + 6 ≤ 7293033; omega⟩ ?_
    refine j_istore (pc := 495) (lv' := [(6, .int rmw1), (5, .int 0), (0, .ref b), (1, .ref (a 0)), (2, .ref (am 0)), (3, .ref qo), (4, .int v4)]) C dL_law_495 (by decide) rfl ?_
    refine j_aload_n (pc := 497) C 4 dL_law_497 rfl rfl ?_
    refine j_callVi (pc := 498) (As := []) (rest := []) (ws' := (lww a k am km qo ko gM w1gnC w1gbC w1gnL w1gbL w1gnF w1gbF gnQ gbQ gE gtp w1glf w1gtr w1glh w1gov mW w1mC w1mL w1mR mQ mE mtb w1mnC w1mnL w1mnR w1mov mnQ w1mwr w1mwl w1mft w1mth w1mpl (vp_updL out (0 : Int32).toNatClampNeg rw1.toInt64))) C K (ci := 3) (q0 := 0) rfl rfl rfl (ctX3_thrown l D am km _ _ _ _ _ _ _ _ _ _ _ _ _ _ _ _ _ _ rfl) gL_law_X3_thrown rfl rfl rfl hdyX3_thrown ⟨Nat.le_of_ble_eq_true rfl, Nat.le_of_ble_eq_true rfl⟩ ((List.range 7).map (fun i => 19 + i)) rfl (by decide) (jspB rfl rfl rfl) [6, 7, 8, 9, 10, 11] rfl rfl (Nat.le_of_ble_eq_true rfl) dL_law_498 ⟨by show 30 + j + 1 ≤ 601024; omega, by show 33300 + 6 * j + 6 ≤ 7293033; omega⟩ ?_
    refine j_iload (pc := 501) C 1 dL_law_501 rfl ?_
    refine j_icmp_eq (pc := 503) (tgt := 508) C dL_law_503 (by decide) (fun _ => ?_) (fun h => absurd htw1 h)
    refine j_iload (pc := 508) C 1 dL_law_508 rfl ?_
    refine j_if_ne (pc := 510) (tgt := 525) C dL_law_510 (by decide) (fun h => absurd h (by decide)) (fun _ => ?_)
    refine j_aload_n (pc := 513) C 5 dL_law_513 rfl rfl ?_
    refine j_iconst (pc := 514) (v := 0) C dL_law_514 (by decide) ?_
    refine j_laload (pc := 515) C K 26 12 rfl rfl (by decide) dL_law_515 ?_
    refine j_iload (pc := 516) C 0 dL_law_516 rfl ?_
    refine j_i2l (pc := 518) C dL_law_518 ?_
    refine j_lcmp (pc := 519) C dL_law_519 ?_
    refine j_if_eq (pc := 520) (tgt := 525) C dL_law_520 (by decide) (fun _ => ?_) (fun h => absurd (show lg_cmp rw1.toInt64 rmw1.toInt64 = 0 by rw [hew1]; exact lg_cmp_self _) h)
    refine j_goto (pc := 525) (tgt := 974) C dL_law_525 (by decide) ?_
    refine j_iinc (pc := 974) (v := (v4 + 6)) (lv' := [(4, .int (v4 + 6)), (6, .int rmw1), (5, .int 0), (0, .ref b), (1, .ref (a 0)), (2, .ref (am 0)), (3, .ref qo)]) C 6 dL_law_974 rfl rfl (by decide) rfl ?_
    refine j_goto (pc := 977) (tgt := 23) C dL_law_977 (by decide) ?_
    refine j_widen (k := 30 + (j + 1)) (n := 33300 + 6 * (j + 1)) (by omega) (by omega) ?_
    exact j_lv [3, 4, 5, 6, 0] rfl (ih (j + 1) _ _ _ _ _ _ _ _ _ _ _ _ _ _ _ _ _ _ _ _ _ _ _ _ _ _ _ _ _ _ _ _ _ _ (by omega) hv6 hIw1)
  · refine j_callSM (pc := 474) (As := [.ref (a 0), .int (xs (v4 + 1).toNatClampNeg), .int (xs (v4 + 2).toNatClampNeg), .ref qo]) (rest := []) (ws' := (lww a k am km qo ko gM gnC gbC gnL gbL gnF gbF gnQ gbQ gE gtp 0 gtr glh gov mW mC mL mR mQ mE mtb mnC mnL mnR mov mnQ mwr mwl mft mth mpl out)) C K hxw hxz (ctL_read_thr l hlt D a k _ _ _ _ _ _ _ _ _ _ _ _ _ _ _ qo ko out _ _ hw1) gL_law_L_read rfl rfl rfl hdyL_read ⟨Nat.le_of_ble_eq_true rfl, Nat.le_of_ble_eq_true rfl⟩ (List.range 19 ++ (List.range 1).map (fun i => (19 + 7) + i)) rfl (by decide) (jspH rfl rfl rfl rfl rfl) [0, 1, 2, 3, 4, 5, 12] rfl rfl (Nat.le_of_ble_eq_true rfl) dL_law_474 ⟨by show 30 + j + 1 ≤ 601024; omega, by show 33300 + 6 * j + 6 ≤ 7293033; omega⟩ ?_
    refine j_istore (pc := 477) (lv' := [(5, .int 1), (0, .ref b), (1, .ref (a 0)), (2, .ref (am 0)), (3, .ref qo), (4, .int v4)]) C dL_law_477 (by decide) rfl ?_
    refine j_aload_n (pc := 479) C 3 dL_law_479 rfl rfl ?_
    refine j_aload_n (pc := 480) C 1 dL_law_480 rfl rfl ?_
    refine j_iload (pc := 481) C 5 dL_law_481 rfl ?_
    refine j_iconst (pc := 483) (v := 1) C dL_law_483 (by decide) ?_
    refine j_iadd (pc := 484) C dL_law_484 ?_
    refine j_sld (pc := 485) C hX hbl hbA hv1 dL_law_485 ?_
    refine j_aload_n (pc := 486) C 1 dL_law_486 rfl rfl ?_
    refine j_iload (pc := 487) C 5 dL_law_487 rfl ?_
    refine j_iconst (pc := 489) (v := 2) C dL_law_489 (by decide) ?_
    refine j_iadd (pc := 490) C dL_law_490 ?_
    refine j_sld (pc := 491) C hX hbl hbA hv2 dL_law_491 ?_
    refine j_callVi (pc := 492) (As := [.int (xs (v4 + 1).toNatClampNeg), .int (xs (v4 + 2).toNatClampNeg)]) (rest := []) (ws' := (lww a k am km qo ko gM gnC gbC gnL gbL gnF gbF gnQ gbQ gE gtp 0 gtr glh gov mW w1mC w1mL w1mR mQ mE mtb w1mnC w1mnL w1mnR w1mov mnQ w1mwr w1mwl w1mft w1mth w1mpl out)) C K (ci := 3) (q0 := 0) rfl rfl rfl (ctX3_read l D am km _ _ _ _ _ _ _ _ _ _ _ _ _ _ _ _ _ _ _ _ _ _ _ _ _ _ _ _ _ _ _ _ hmw1) gL_law_X3_read rfl rfl rfl hdyX3_read ⟨Nat.le_of_ble_eq_true rfl, Nat.le_of_ble_eq_true rfl⟩ ((List.range 7).map (fun i => 19 + i)) rfl (by decide) (jspB rfl rfl rfl) [6, 7, 8, 9, 10, 11] rfl rfl (Nat.le_of_ble_eq_true rfl) dL_law_492 ⟨by show 30 + j + 1 ≤ 601024; omega, by show 33300 + 6 * j + 6 ≤ 7293033; omega⟩ ?_
    refine j_istore (pc := 495) (lv' := [(6, .int rmw1), (5, .int 1), (0, .ref b), (1, .ref (a 0)), (2, .ref (am 0)), (3, .ref qo), (4, .int v4)]) C dL_law_495 (by decide) rfl ?_
    refine j_aload_n (pc := 497) C 4 dL_law_497 rfl rfl ?_
    refine j_callVi (pc := 498) (As := []) (rest := []) (ws' := (lww a k am km qo ko gM gnC gbC gnL gbL gnF gbF gnQ gbQ gE gtp 0 gtr glh gov mW w1mC w1mL w1mR mQ mE mtb w1mnC w1mnL w1mnR w1mov mnQ w1mwr w1mwl w1mft w1mth w1mpl out)) C K (ci := 3) (q0 := 0) rfl rfl rfl (ctX3_thrown l D am km _ _ _ _ _ _ _ _ _ _ _ _ _ _ _ _ _ _ rfl) gL_law_X3_thrown rfl rfl rfl hdyX3_thrown ⟨Nat.le_of_ble_eq_true rfl, Nat.le_of_ble_eq_true rfl⟩ ((List.range 7).map (fun i => 19 + i)) rfl (by decide) (jspB rfl rfl rfl) [6, 7, 8, 9, 10, 11] rfl rfl (Nat.le_of_ble_eq_true rfl) dL_law_498 ⟨by show 30 + j + 1 ≤ 601024; omega, by show 33300 + 6 * j + 6 ≤ 7293033; omega⟩ ?_
    refine j_iload (pc := 501) C 1 dL_law_501 rfl ?_
    refine j_icmp_eq (pc := 503) (tgt := 508) C dL_law_503 (by decide) (fun _ => ?_) (fun h => absurd htw1 h)
    refine j_iload (pc := 508) C 1 dL_law_508 rfl ?_
    refine j_if_ne (pc := 510) (tgt := 525) C dL_law_510 (by decide) (fun _ => ?_) (fun h => absurd h (by decide))
    refine j_goto (pc := 525) (tgt := 974) C dL_law_525 (by decide) ?_
    refine j_iinc (pc := 974) (v := (v4 + 6)) (lv' := [(4, .int (v4 + 6)), (6, .int rmw1), (5, .int 1), (0, .ref b), (1, .ref (a 0)), (2, .ref (am 0)), (3, .ref qo)]) C 6 dL_law_974 rfl rfl (by decide) rfl ?_
    refine j_goto (pc := 977) (tgt := 23) C dL_law_977 (by decide) ?_
    refine j_widen (k := 30 + (j + 1)) (n := 33300 + 6 * (j + 1)) (by omega) (by omega) ?_
    exact j_lv [3, 4, 5, 6, 0] rfl (ih (j + 1) _ _ _ _ _ _ _ _ _ _ _ _ _ _ _ _ _ _ _ _ _ _ _ _ _ _ _ _ _ _ _ _ _ _ (by omega) hv6 hIw1)
set_option maxHeartbeats 4000000 in
set_option maxRecDepth 100000 in
theorem lawc_write {p : Program} {l : Launch} (hlt : l.stackTraces = false) {e : Env} {s : State} {m : MethodId} {below : List Frame} {meth : Method} {c : Code} {D : va_G} {b L : Nat} {xs : Nat → Int32} (hL : L ≤ 3072) (C : jc p s m #[Value.ref b] c code 7 RL wsL_law (fun q : Nat => s.heap.size ≤ q)) (hr : meth.sig.returnType = ret) (hlk : meth.locks = false) (hX : va_X b L xs s s.heap) (hbl : b < s.heap.size) (hxw : xw s) (hxz : xz (fun q : Nat => s.heap.size ≤ q) s s.heap) {I : Nat → GS → MS → Prop} (S_write : sm_write I 512) (a : Nat → Nat) (k : Nat → ClassId) (am : Nat → Nat) (km : Nat → ClassId) (qo : Nat) (ko : ClassId) (K : jk D (ltt k km ko) s) (j : Nat) (hjL : j < 512) (hj6 : 6 * j + 6 ≤ L) (v4 : Int32) (hv : v4 = nI (6 * j)) (gM : Nat → Int32) (gnC : Int32) (gbC : Nat → Int32) (gnL : Int32) (gbL : Nat → Int32) (gnF : Int32) (gbF : Nat → Int32) (gnQ : Int32) (gbQ : Nat → Int32) (gE : Nat → Nat → Int32) (gtp : Int32) (glf : Int32) (gtr : Int32) (glh : Int32) (gov : Int32) (mW : Nat → Int32) (mC : Nat → Int32) (mL : Nat → Int32) (mR : Nat → Int32) (mQ : Nat → Int32) (mE : Nat → Int32) (mtb : Int32) (mnC : Int32) (mnL : Int32) (mnR : Int32) (mov : Int32) (mnQ : Int32) (mwr : Int32) (mwl : Int32) (mft : Int32) (mth : Int32) (mpl : Int32) (out : Nat → Int64) (hI : I j (gM, gnC, gbC, gnL, gbL, gnF, gbF, gnQ, gbQ, gE, gtp, glf, gtr, glh, gov) (mW, mC, mL, mR, mQ, mE, mtb, mnC, mnL, mnR, mov, mnQ, mwr, mwl, mft, mth, mpl))
    (ih : ∀ (j2 : Nat) (gM : Nat → Int32) (gnC : Int32) (gbC : Nat → Int32) (gnL : Int32) (gbL : Nat → Int32) (gnF : Int32) (gbF : Nat → Int32) (gnQ : Int32) (gbQ : Nat → Int32) (gE : Nat → Nat → Int32) (gtp : Int32) (glf : Int32) (gtr : Int32) (glh : Int32) (gov : Int32) (mW : Nat → Int32) (mC : Nat → Int32) (mL : Nat → Int32) (mR : Nat → Int32) (mQ : Nat → Int32) (mE : Nat → Int32) (mtb : Int32) (mnC : Int32) (mnL : Int32) (mnR : Int32) (mov : Int32) (mnQ : Int32) (mwr : Int32) (mwl : Int32) (mft : Int32) (mth : Int32) (mpl : Int32) (out : Nat → Int64) (v4 : Int32), j2 = j + 1 → v4 = nI (6 * j2) → I j2 (gM, gnC, gbC, gnL, gbL, gnF, gbF, gnQ, gbQ, gE, gtp, glf, gtr, glh, gov) (mW, mC, mL, mR, mQ, mE, mtb, mnC, mnL, mnR, mov, mnQ, mwr, mwl, mft, mth, mpl) → jw p l e room_1 s m #[Value.ref b] below meth c 7 D (fun q : Nat => s.heap.size ≤ q) (30 + j2) (33300 + 6 * j2) (lw_Z below #[Value.ref b] s) (lww a k am km qo ko gM gnC gbC gnL gbL gnF gbF gnQ gbQ gE gtp glf gtr glh gov mW mC mL mR mQ mE mtb mnC mnL mnR mov mnQ mwr mwl mft mth mpl out) [(0, .ref b), (1, .ref (a 0)), (2, .ref (am 0)), (3, .ref qo), (4, .int v4)] 23 []) :
    jw p l e room_1 s m #[Value.ref b] below meth c 7 D (fun q : Nat => s.heap.size ≤ q) (30 + j) (33300 + 6 * j) (lw_Z below #[Value.ref b] s) (lww a k am km qo ko gM gnC gbC gnL gbL gnF gbF gnQ gbQ gE gtp glf gtr glh gov mW mC mL mR mQ mE mtb mnC mnL mnR mov mnQ mwr mwl mft mth mpl out) [(0, .ref b), (1, .ref (a 0)), (2, .ref (am 0)), (3, .ref qo), (4, .int v4)] 528 [] := by
  have hbA : ¬ (fun q : Nat => s.heap.size ≤ q) b := Nat.not_le.mpr hbl
  have hv1 : vp_in (v4 + 1) L := by rw [hv]; exact lawin hj6 (by omega) (k := 1) rfl (by omega)
  have hv2 : vp_in (v4 + 2) L := by rw [hv]; exact lawin hj6 (by omega) (k := 2) rfl (by omega)
  have hv3 : vp_in (v4 + 3) L := by rw [hv]; exact lawin hj6 (by omega) (k := 3) rfl (by omega)
  have hv4 : vp_in (v4 + 4) L := by rw [hv]; exact lawin hj6 (by omega) (k := 4) rfl (by omega)
  have hv5 : vp_in (v4 + 5) L := by rw [hv]; exact lawin hj6 (by omega) (k := 5) rfl (by omega)
  have hv6 : v4 + 6 = nI (6 * (j + 1)) := by rw [hv]; exact lawsix j
  refine j_aload_n (pc := 528) C 1 dL_law_528 rfl rfl ?_
  refine j_aload_n (pc := 529) C 0 dL_law_529 rfl rfl ?_
  refine j_iload (pc := 530) C 4 dL_law_530 rfl ?_
  refine j_iconst (pc := 532) (v := 1) C dL_law_532 (by decide) ?_
  refine j_iadd (pc := 533) C dL_law_533 ?_
  refine j_sld (pc := 534) C hX hbl hbA hv1 dL_law_534 ?_
  refine j_aload_n (pc := 535) C 0 dL_law_535 rfl rfl ?_
  refine j_iload (pc := 536) C 4 dL_law_536 rfl ?_
  refine j_iconst (pc := 538) (v := 2) C dL_law_538 (by decide) ?_
  refine j_iadd (pc := 539) C dL_law_539 ?_
  refine j_sld (pc := 540) C hX hbl hbA hv2 dL_law_540 ?_
  refine j_aload_n (pc := 541) C 0 dL_law_541 rfl rfl ?_
  refine j_iload (pc := 542) C 4 dL_law_542 rfl ?_
  refine j_iconst (pc := 544) (v := 3) C dL_law_544 (by decide) ?_
  refine j_iadd (pc := 545) C dL_law_545 ?_
  refine j_sld (pc := 546) C hX hbl hbA hv3 dL_law_546 ?_
  obtain ⟨rw1, rmw1, w1gM, w1gnC, w1gbC, w1gnL, w1gbL, w1gnF, w1gbF, w1glf, w1gtr, w1glh, w1gov, w1mW, w1mC, w1mL, w1mR, w1mnC, w1mnL, w1mnR, w1mov, w1mwr, w1mwl, w1mft, w1mth, w1mpl, hw1, hmw1, hIw1⟩ := S_write j _ _ _ _ _ _ _ _ _ _ _ _ _ _ _ _ _ _ _ _ _ _ _ _ _ _ _ _ _ _ _ _ (xs (v4 + 1).toNatClampNeg) (xs (v4 + 2).toNatClampNeg) (xs (v4 + 3).toNatClampNeg) hjL hI
  refine j_callVi (pc := 547) (As := [.int (xs (v4 + 1).toNatClampNeg), .int (xs (v4 + 2).toNatClampNeg), .int (xs (v4 + 3).toNatClampNeg)]) (rest := []) (ws' := (lww a k am km qo ko w1gM w1gnC w1gbC w1gnL w1gbL w1gnF w1gbF gnQ gbQ gE gtp w1glf w1gtr w1glh w1gov mW mC mL mR mQ mE mtb mnC mnL mnR mov mnQ mwr mwl mft mth mpl out)) C K (ci := 2) (q0 := 0) rfl rfl rfl (ctX2_write l D a k _ _ _ _ _ _ _ _ _ _ _ _ _ _ _ _ _ _ _ _ _ _ _ _ _ _ _ _ _ _ hw1) gL_law_X2_write rfl rfl rfl hdyX2_write ⟨Nat.le_of_ble_eq_true rfl, Nat.le_of_ble_eq_true rfl⟩ (List.range 19) rfl (by decide) (jspA rfl rfl) [0, 1, 2, 3, 4, 5] rfl rfl (Nat.le_of_ble_eq_true rfl) dL_law_547 ⟨by show 30 + j ≤ 601024; omega, by show 33300 + 6 * j ≤ 7293033; omega⟩ ?_
  refine j_pop (pc := 550) C dL_law_550 rfl ?_
  refine j_aload_n (pc := 551) C 2 dL_law_551 rfl rfl ?_
  refine j_aload_n (pc := 552) C 0 dL_law_552 rfl rfl ?_
  refine j_iload (pc := 553) C 4 dL_law_553 rfl ?_
  refine j_iconst (pc := 555) (v := 1) C dL_law_555 (by decide) ?_
  refine j_iadd (pc := 556) C dL_law_556 ?_
  refine j_sld (pc := 557) C hX hbl hbA hv1 dL_law_557 ?_
  refine j_aload_n (pc := 558) C 0 dL_law_558 rfl rfl ?_
  refine j_iload (pc := 559) C 4 dL_law_559 rfl ?_
  refine j_iconst (pc := 561) (v := 2) C dL_law_561 (by decide) ?_
  refine j_iadd (pc := 562) C dL_law_562 ?_
  refine j_sld (pc := 563) C hX hbl hbA hv2 dL_law_563 ?_
  refine j_aload_n (pc := 564) C 0 dL_law_564 rfl rfl ?_
  refine j_iload (pc := 565) C 4 dL_law_565 rfl ?_
  refine j_iconst (pc := 567) (v := 3) C dL_law_567 (by decide) ?_
  refine j_iadd (pc := 568) C dL_law_568 ?_
  refine j_sld (pc := 569) C hX hbl hbA hv3 dL_law_569 ?_
  refine j_callVi (pc := 570) (As := [.int (xs (v4 + 1).toNatClampNeg), .int (xs (v4 + 2).toNatClampNeg), .int (xs (v4 + 3).toNatClampNeg)]) (rest := []) (ws' := (lww a k am km qo ko w1gM w1gnC w1gbC w1gnL w1gbL w1gnF w1gbF gnQ gbQ gE gtp w1glf w1gtr w1glh w1gov w1mW w1mC w1mL w1mR mQ mE mtb w1mnC w1mnL w1mnR w1mov mnQ w1mwr w1mwl w1mft w1mth w1mpl out)) C K (ci := 3) (q0 := 0) rfl rfl rfl (ctX3_write l D am km _ _ _ _ _ _ _ _ _ _ _ _ _ _ _ _ _ _ _ _ _ _ _ _ _ _ _ _ _ _ _ _ _ _ hmw1) gL_law_X3_write rfl rfl rfl hdyX3_write ⟨Nat.le_of_ble_eq_true rfl, Nat.le_of_ble_eq_true rfl⟩ ((List.range 7).map (fun i => 19 + i)) rfl (by decide) (jspB rfl rfl rfl) [6, 7, 8, 9, 10, 11] rfl rfl (Nat.le_of_ble_eq_true rfl) dL_law_570 ⟨by show 30 + j ≤ 601024; omega, by show 33300 + 6 * j ≤ 7293033; omega⟩ ?_
  refine j_pop (pc := 573) C dL_law_573 rfl ?_
  refine j_goto (pc := 574) (tgt := 974) C dL_law_574 (by decide) ?_
  refine j_iinc (pc := 974) (v := (v4 + 6)) (lv' := [(4, .int (v4 + 6)), (0, .ref b), (1, .ref (a 0)), (2, .ref (am 0)), (3, .ref qo)]) C 4 dL_law_974 rfl rfl (by decide) rfl ?_
  refine j_goto (pc := 977) (tgt := 23) C dL_law_977 (by decide) ?_
  refine j_widen (k := 30 + (j + 1)) (n := 33300 + 6 * (j + 1)) (by omega) (by omega) ?_
  exact j_lv [1, 2, 3, 4, 0] rfl (ih (j + 1) _ _ _ _ _ _ _ _ _ _ _ _ _ _ _ _ _ _ _ _ _ _ _ _ _ _ _ _ _ _ _ _ _ _ (by omega) hv6 hIw1)
set_option maxHeartbeats 4000000 in
set_option maxRecDepth 100000 in
theorem lawc_fault {p : Program} {l : Launch} (hlt : l.stackTraces = false) {e : Env} {s : State} {m : MethodId} {below : List Frame} {meth : Method} {c : Code} {D : va_G} {b L : Nat} {xs : Nat → Int32} (hL : L ≤ 3072) (C : jc p s m #[Value.ref b] c code 7 RL wsL_law (fun q : Nat => s.heap.size ≤ q)) (hr : meth.sig.returnType = ret) (hlk : meth.locks = false) (hX : va_X b L xs s s.heap) (hbl : b < s.heap.size) (hxw : xw s) (hxz : xz (fun q : Nat => s.heap.size ≤ q) s s.heap) {I : Nat → GS → MS → Prop} (S_fault : sm_fault I 512) (a : Nat → Nat) (k : Nat → ClassId) (am : Nat → Nat) (km : Nat → ClassId) (qo : Nat) (ko : ClassId) (K : jk D (ltt k km ko) s) (j : Nat) (hjL : j < 512) (hj6 : 6 * j + 6 ≤ L) (v4 : Int32) (hv : v4 = nI (6 * j)) (gM : Nat → Int32) (gnC : Int32) (gbC : Nat → Int32) (gnL : Int32) (gbL : Nat → Int32) (gnF : Int32) (gbF : Nat → Int32) (gnQ : Int32) (gbQ : Nat → Int32) (gE : Nat → Nat → Int32) (gtp : Int32) (glf : Int32) (gtr : Int32) (glh : Int32) (gov : Int32) (mW : Nat → Int32) (mC : Nat → Int32) (mL : Nat → Int32) (mR : Nat → Int32) (mQ : Nat → Int32) (mE : Nat → Int32) (mtb : Int32) (mnC : Int32) (mnL : Int32) (mnR : Int32) (mov : Int32) (mnQ : Int32) (mwr : Int32) (mwl : Int32) (mft : Int32) (mth : Int32) (mpl : Int32) (out : Nat → Int64) (hI : I j (gM, gnC, gbC, gnL, gbL, gnF, gbF, gnQ, gbQ, gE, gtp, glf, gtr, glh, gov) (mW, mC, mL, mR, mQ, mE, mtb, mnC, mnL, mnR, mov, mnQ, mwr, mwl, mft, mth, mpl))
    (ih : ∀ (j2 : Nat) (gM : Nat → Int32) (gnC : Int32) (gbC : Nat → Int32) (gnL : Int32) (gbL : Nat → Int32) (gnF : Int32) (gbF : Nat → Int32) (gnQ : Int32) (gbQ : Nat → Int32) (gE : Nat → Nat → Int32) (gtp : Int32) (glf : Int32) (gtr : Int32) (glh : Int32) (gov : Int32) (mW : Nat → Int32) (mC : Nat → Int32) (mL : Nat → Int32) (mR : Nat → Int32) (mQ : Nat → Int32) (mE : Nat → Int32) (mtb : Int32) (mnC : Int32) (mnL : Int32) (mnR : Int32) (mov : Int32) (mnQ : Int32) (mwr : Int32) (mwl : Int32) (mft : Int32) (mth : Int32) (mpl : Int32) (out : Nat → Int64) (v4 : Int32), j2 = j + 1 → v4 = nI (6 * j2) → I j2 (gM, gnC, gbC, gnL, gbL, gnF, gbF, gnQ, gbQ, gE, gtp, glf, gtr, glh, gov) (mW, mC, mL, mR, mQ, mE, mtb, mnC, mnL, mnR, mov, mnQ, mwr, mwl, mft, mth, mpl) → jw p l e room_1 s m #[Value.ref b] below meth c 7 D (fun q : Nat => s.heap.size ≤ q) (30 + j2) (33300 + 6 * j2) (lw_Z below #[Value.ref b] s) (lww a k am km qo ko gM gnC gbC gnL gbL gnF gbF gnQ gbQ gE gtp glf gtr glh gov mW mC mL mR mQ mE mtb mnC mnL mnR mov mnQ mwr mwl mft mth mpl out) [(0, .ref b), (1, .ref (a 0)), (2, .ref (am 0)), (3, .ref qo), (4, .int v4)] 23 []) :
    jw p l e room_1 s m #[Value.ref b] below meth c 7 D (fun q : Nat => s.heap.size ≤ q) (30 + j) (33300 + 6 * j) (lw_Z below #[Value.ref b] s) (lww a k am km qo ko gM gnC gbC gnL gbL gnF gbF gnQ gbQ gE gtp glf gtr glh gov mW mC mL mR mQ mE mtb mnC mnL mnR mov mnQ mwr mwl mft mth mpl out) [(0, .ref b), (1, .ref (a 0)), (2, .ref (am 0)), (3, .ref qo), (4, .int v4)] 577 [] := by
  have hbA : ¬ (fun q : Nat => s.heap.size ≤ q) b := Nat.not_le.mpr hbl
  have hv1 : vp_in (v4 + 1) L := by rw [hv]; exact lawin hj6 (by omega) (k := 1) rfl (by omega)
  have hv2 : vp_in (v4 + 2) L := by rw [hv]; exact lawin hj6 (by omega) (k := 2) rfl (by omega)
  have hv3 : vp_in (v4 + 3) L := by rw [hv]; exact lawin hj6 (by omega) (k := 3) rfl (by omega)
  have hv4 : vp_in (v4 + 4) L := by rw [hv]; exact lawin hj6 (by omega) (k := 4) rfl (by omega)
  have hv5 : vp_in (v4 + 5) L := by rw [hv]; exact lawin hj6 (by omega) (k := 5) rfl (by omega)
  have hv6 : v4 + 6 = nI (6 * (j + 1)) := by rw [hv]; exact lawsix j
  refine j_aload_n (pc := 577) C 1 dL_law_577 rfl rfl ?_
  obtain ⟨rw1, rmw1, w1mth, hw1, hmw1, hIw1⟩ := S_fault j _ _ _ _ _ _ _ _ _ _ _ _ _ _ _ _ _ _ _ _ _ _ _ _ _ _ _ _ _ _ _ _ hjL hI
  refine j_callVi (pc := 578) (As := []) (rest := []) (ws' := (lww a k am km qo ko gM gnC gbC gnL gbL gnF gbF gnQ gbQ gE gtp glf gtr glh gov mW mC mL mR mQ mE mtb mnC mnL mnR mov mnQ mwr mwl mft mth mpl out)) C K (ci := 2) (q0 := 0) rfl rfl rfl (ctX2_fault l D a k _ _ _ _ _ _ _ _ _ _ _ _ _ _ _ _ hw1) gL_law_X2_fault rfl rfl rfl hdyX2_fault ⟨Nat.le_of_ble_eq_true rfl, Nat.le_of_ble_eq_true rfl⟩ (List.range 19) rfl (by decide) (jspA rfl rfl) [0, 1, 2, 3, 4, 5] rfl rfl (Nat.le_of_ble_eq_true rfl) dL_law_578 ⟨by show 30 + j ≤ 601024; omega, by show 33300 + 6 * j ≤ 7293033; omega⟩ ?_
  refine j_pop (pc := 581) C dL_law_581 rfl ?_
  refine j_aload_n (pc := 582) C 2 dL_law_582 rfl rfl ?_
  refine j_callVi (pc := 583) (As := []) (rest := []) (ws' := (lww a k am km qo ko gM gnC gbC gnL gbL gnF gbF gnQ gbQ gE gtp glf gtr glh gov mW mC mL mR mQ mE mtb mnC mnL mnR mov mnQ mwr mwl mft w1mth mpl out)) C K (ci := 3) (q0 := 0) rfl rfl rfl (ctX3_fault l D am km _ _ _ _ _ _ _ _ _ _ _ _ _ _ _ _ _ _ _ hmw1) gL_law_X3_fault rfl rfl rfl hdyX3_fault ⟨Nat.le_of_ble_eq_true rfl, Nat.le_of_ble_eq_true rfl⟩ ((List.range 7).map (fun i => 19 + i)) rfl (by decide) (jspB rfl rfl rfl) [6, 7, 8, 9, 10, 11] rfl rfl (Nat.le_of_ble_eq_true rfl) dL_law_583 ⟨by show 30 + j ≤ 601024; omega, by show 33300 + 6 * j ≤ 7293033; omega⟩ ?_
  refine j_pop (pc := 586) C dL_law_586 rfl ?_
  refine j_goto (pc := 587) (tgt := 974) C dL_law_587 (by decide) ?_
  refine j_iinc (pc := 974) (v := (v4 + 6)) (lv' := [(4, .int (v4 + 6)), (0, .ref b), (1, .ref (a 0)), (2, .ref (am 0)), (3, .ref qo)]) C 4 dL_law_974 rfl rfl (by decide) rfl ?_
  refine j_goto (pc := 977) (tgt := 23) C dL_law_977 (by decide) ?_
  refine j_widen (k := 30 + (j + 1)) (n := 33300 + 6 * (j + 1)) (by omega) (by omega) ?_
  exact j_lv [1, 2, 3, 4, 0] rfl (ih (j + 1) _ _ _ _ _ _ _ _ _ _ _ _ _ _ _ _ _ _ _ _ _ _ _ _ _ _ _ _ _ _ _ _ _ _ (by omega) hv6 hIw1)
set_option maxHeartbeats 4000000 in
set_option maxRecDepth 100000 in
theorem lawc_ring {p : Program} {l : Launch} (hlt : l.stackTraces = false) {e : Env} {s : State} {m : MethodId} {below : List Frame} {meth : Method} {c : Code} {D : va_G} {b L : Nat} {xs : Nat → Int32} (hL : L ≤ 3072) (C : jc p s m #[Value.ref b] c code 7 RL wsL_law (fun q : Nat => s.heap.size ≤ q)) (hr : meth.sig.returnType = ret) (hlk : meth.locks = false) (hX : va_X b L xs s s.heap) (hbl : b < s.heap.size) (hxw : xw s) (hxz : xz (fun q : Nat => s.heap.size ≤ q) s s.heap) {I : Nat → GS → MS → Prop} (S_ring : sm_ring I 512) (a : Nat → Nat) (k : Nat → ClassId) (am : Nat → Nat) (km : Nat → ClassId) (qo : Nat) (ko : ClassId) (K : jk D (ltt k km ko) s) (j : Nat) (hjL : j < 512) (hj6 : 6 * j + 6 ≤ L) (v4 : Int32) (hv : v4 = nI (6 * j)) (gM : Nat → Int32) (gnC : Int32) (gbC : Nat → Int32) (gnL : Int32) (gbL : Nat → Int32) (gnF : Int32) (gbF : Nat → Int32) (gnQ : Int32) (gbQ : Nat → Int32) (gE : Nat → Nat → Int32) (gtp : Int32) (glf : Int32) (gtr : Int32) (glh : Int32) (gov : Int32) (mW : Nat → Int32) (mC : Nat → Int32) (mL : Nat → Int32) (mR : Nat → Int32) (mQ : Nat → Int32) (mE : Nat → Int32) (mtb : Int32) (mnC : Int32) (mnL : Int32) (mnR : Int32) (mov : Int32) (mnQ : Int32) (mwr : Int32) (mwl : Int32) (mft : Int32) (mth : Int32) (mpl : Int32) (out : Nat → Int64) (hI : I j (gM, gnC, gbC, gnL, gbL, gnF, gbF, gnQ, gbQ, gE, gtp, glf, gtr, glh, gov) (mW, mC, mL, mR, mQ, mE, mtb, mnC, mnL, mnR, mov, mnQ, mwr, mwl, mft, mth, mpl))
    (ih : ∀ (j2 : Nat) (gM : Nat → Int32) (gnC : Int32) (gbC : Nat → Int32) (gnL : Int32) (gbL : Nat → Int32) (gnF : Int32) (gbF : Nat → Int32) (gnQ : Int32) (gbQ : Nat → Int32) (gE : Nat → Nat → Int32) (gtp : Int32) (glf : Int32) (gtr : Int32) (glh : Int32) (gov : Int32) (mW : Nat → Int32) (mC : Nat → Int32) (mL : Nat → Int32) (mR : Nat → Int32) (mQ : Nat → Int32) (mE : Nat → Int32) (mtb : Int32) (mnC : Int32) (mnL : Int32) (mnR : Int32) (mov : Int32) (mnQ : Int32) (mwr : Int32) (mwl : Int32) (mft : Int32) (mth : Int32) (mpl : Int32) (out : Nat → Int64) (v4 : Int32), j2 = j + 1 → v4 = nI (6 * j2) → I j2 (gM, gnC, gbC, gnL, gbL, gnF, gbF, gnQ, gbQ, gE, gtp, glf, gtr, glh, gov) (mW, mC, mL, mR, mQ, mE, mtb, mnC, mnL, mnR, mov, mnQ, mwr, mwl, mft, mth, mpl) → jw p l e room_1 s m #[Value.ref b] below meth c 7 D (fun q : Nat => s.heap.size ≤ q) (30 + j2) (33300 + 6 * j2) (lw_Z below #[Value.ref b] s) (lww a k am km qo ko gM gnC gbC gnL gbL gnF gbF gnQ gbQ gE gtp glf gtr glh gov mW mC mL mR mQ mE mtb mnC mnL mnR mov mnQ mwr mwl mft mth mpl out) [(0, .ref b), (1, .ref (a 0)), (2, .ref (am 0)), (3, .ref qo), (4, .int v4)] 23 []) :
    jw p l e room_1 s m #[Value.ref b] below meth c 7 D (fun q : Nat => s.heap.size ≤ q) (30 + j) (33300 + 6 * j) (lw_Z below #[Value.ref b] s) (lww a k am km qo ko gM gnC gbC gnL gbL gnF gbF gnQ gbQ gE gtp glf gtr glh gov mW mC mL mR mQ mE mtb mnC mnL mnR mov mnQ mwr mwl mft mth mpl out) [(0, .ref b), (1, .ref (a 0)), (2, .ref (am 0)), (3, .ref qo), (4, .int v4)] 590 [] := by
  have hbA : ¬ (fun q : Nat => s.heap.size ≤ q) b := Nat.not_le.mpr hbl
  have hv1 : vp_in (v4 + 1) L := by rw [hv]; exact lawin hj6 (by omega) (k := 1) rfl (by omega)
  have hv2 : vp_in (v4 + 2) L := by rw [hv]; exact lawin hj6 (by omega) (k := 2) rfl (by omega)
  have hv3 : vp_in (v4 + 3) L := by rw [hv]; exact lawin hj6 (by omega) (k := 3) rfl (by omega)
  have hv4 : vp_in (v4 + 4) L := by rw [hv]; exact lawin hj6 (by omega) (k := 4) rfl (by omega)
  have hv5 : vp_in (v4 + 5) L := by rw [hv]; exact lawin hj6 (by omega) (k := 5) rfl (by omega)
  have hv6 : v4 + 6 = nI (6 * (j + 1)) := by rw [hv]; exact lawsix j
  refine j_aload_n (pc := 590) C 1 dL_law_590 rfl rfl ?_
  refine j_aload_n (pc := 591) C 0 dL_law_591 rfl rfl ?_
  refine j_iload (pc := 592) C 4 dL_law_592 rfl ?_
  refine j_iconst (pc := 594) (v := 1) C dL_law_594 (by decide) ?_
  refine j_iadd (pc := 595) C dL_law_595 ?_
  refine j_sld (pc := 596) C hX hbl hbA hv1 dL_law_596 ?_
  refine j_aload_n (pc := 597) C 0 dL_law_597 rfl rfl ?_
  refine j_iload (pc := 598) C 4 dL_law_598 rfl ?_
  refine j_iconst (pc := 600) (v := 2) C dL_law_600 (by decide) ?_
  refine j_iadd (pc := 601) C dL_law_601 ?_
  refine j_sld (pc := 602) C hX hbl hbA hv2 dL_law_602 ?_
  refine j_aload_n (pc := 603) C 0 dL_law_603 rfl rfl ?_
  refine j_iload (pc := 604) C 4 dL_law_604 rfl ?_
  refine j_iconst (pc := 606) (v := 3) C dL_law_606 (by decide) ?_
  refine j_iadd (pc := 607) C dL_law_607 ?_
  refine j_sld (pc := 608) C hX hbl hbA hv3 dL_law_608 ?_
  obtain ⟨rw1, rmw1, w1gE, w1mE, w1mth, hw1, hmw1, hIw1⟩ := S_ring j _ _ _ _ _ _ _ _ _ _ _ _ _ _ _ _ _ _ _ _ _ _ _ _ _ _ _ _ _ _ _ _ (xs (v4 + 1).toNatClampNeg) (xs (v4 + 2).toNatClampNeg) (xs (v4 + 3).toNatClampNeg) hjL hI
  refine j_callVi (pc := 609) (As := [.int (xs (v4 + 1).toNatClampNeg), .int (xs (v4 + 2).toNatClampNeg), .int (xs (v4 + 3).toNatClampNeg)]) (rest := []) (ws' := (lww a k am km qo ko gM gnC gbC gnL gbL gnF gbF gnQ gbQ w1gE gtp glf gtr glh gov mW mC mL mR mQ mE mtb mnC mnL mnR mov mnQ mwr mwl mft mth mpl out)) C K (ci := 2) (q0 := 0) rfl rfl rfl (ctX2_ring l D a k _ _ _ _ _ _ _ _ _ _ _ _ _ _ _ _ _ _ _ _ hw1) gL_law_X2_ring rfl rfl rfl hdyX2_ring ⟨Nat.le_of_ble_eq_true rfl, Nat.le_of_ble_eq_true rfl⟩ (List.range 19) rfl (by decide) (jspA rfl rfl) [0, 1, 2, 3, 4, 5] rfl rfl (Nat.le_of_ble_eq_true rfl) dL_law_609 ⟨by show 30 + j ≤ 601024; omega, by show 33300 + 6 * j ≤ 7293033; omega⟩ ?_
  refine j_pop (pc := 612) C dL_law_612 rfl ?_
  refine j_aload_n (pc := 613) C 2 dL_law_613 rfl rfl ?_
  refine j_aload_n (pc := 614) C 0 dL_law_614 rfl rfl ?_
  refine j_iload (pc := 615) C 4 dL_law_615 rfl ?_
  refine j_iconst (pc := 617) (v := 1) C dL_law_617 (by decide) ?_
  refine j_iadd (pc := 618) C dL_law_618 ?_
  refine j_sld (pc := 619) C hX hbl hbA hv1 dL_law_619 ?_
  refine j_aload_n (pc := 620) C 0 dL_law_620 rfl rfl ?_
  refine j_iload (pc := 621) C 4 dL_law_621 rfl ?_
  refine j_iconst (pc := 623) (v := 2) C dL_law_623 (by decide) ?_
  refine j_iadd (pc := 624) C dL_law_624 ?_
  refine j_sld (pc := 625) C hX hbl hbA hv2 dL_law_625 ?_
  refine j_aload_n (pc := 626) C 0 dL_law_626 rfl rfl ?_
  refine j_iload (pc := 627) C 4 dL_law_627 rfl ?_
  refine j_iconst (pc := 629) (v := 3) C dL_law_629 (by decide) ?_
  refine j_iadd (pc := 630) C dL_law_630 ?_
  refine j_sld (pc := 631) C hX hbl hbA hv3 dL_law_631 ?_
  refine j_callVi (pc := 632) (As := [.int (xs (v4 + 1).toNatClampNeg), .int (xs (v4 + 2).toNatClampNeg), .int (xs (v4 + 3).toNatClampNeg)]) (rest := []) (ws' := (lww a k am km qo ko gM gnC gbC gnL gbL gnF gbF gnQ gbQ w1gE gtp glf gtr glh gov mW mC mL mR mQ w1mE mtb mnC mnL mnR mov mnQ mwr mwl mft w1mth mpl out)) C K (ci := 3) (q0 := 0) rfl rfl rfl (ctX3_ring l D am km _ _ _ _ _ _ _ _ _ _ _ _ _ _ _ _ _ _ _ _ _ _ _ hmw1) gL_law_X3_ring rfl rfl rfl hdyX3_ring ⟨Nat.le_of_ble_eq_true rfl, Nat.le_of_ble_eq_true rfl⟩ ((List.range 7).map (fun i => 19 + i)) rfl (by decide) (jspB rfl rfl rfl) [6, 7, 8, 9, 10, 11] rfl rfl (Nat.le_of_ble_eq_true rfl) dL_law_632 ⟨by show 30 + j ≤ 601024; omega, by show 33300 + 6 * j ≤ 7293033; omega⟩ ?_
  refine j_pop (pc := 635) C dL_law_635 rfl ?_
  refine j_goto (pc := 636) (tgt := 974) C dL_law_636 (by decide) ?_
  refine j_iinc (pc := 974) (v := (v4 + 6)) (lv' := [(4, .int (v4 + 6)), (0, .ref b), (1, .ref (a 0)), (2, .ref (am 0)), (3, .ref qo)]) C 4 dL_law_974 rfl rfl (by decide) rfl ?_
  refine j_goto (pc := 977) (tgt := 23) C dL_law_977 (by decide) ?_
  refine j_widen (k := 30 + (j + 1)) (n := 33300 + 6 * (j + 1)) (by omega) (by omega) ?_
  exact j_lv [1, 2, 3, 4, 0] rfl (ih (j + 1) _ _ _ _ _ _ _ _ _ _ _ _ _ _ _ _ _ _ _ _ _ _ _ _ _ _ _ _ _ _ _ _ _ _ (by omega) hv6 hIw1)
set_option maxHeartbeats 4000000 in
set_option maxRecDepth 100000 in
theorem lawc_tail {p : Program} {l : Launch} (hlt : l.stackTraces = false) {e : Env} {s : State} {m : MethodId} {below : List Frame} {meth : Method} {c : Code} {D : va_G} {b L : Nat} {xs : Nat → Int32} (hL : L ≤ 3072) (C : jc p s m #[Value.ref b] c code 7 RL wsL_law (fun q : Nat => s.heap.size ≤ q)) (hr : meth.sig.returnType = ret) (hlk : meth.locks = false) (hX : va_X b L xs s s.heap) (hbl : b < s.heap.size) (hxw : xw s) (hxz : xz (fun q : Nat => s.heap.size ≤ q) s s.heap) {I : Nat → GS → MS → Prop} (S_tail : sm_tail I 512) (a : Nat → Nat) (k : Nat → ClassId) (am : Nat → Nat) (km : Nat → ClassId) (qo : Nat) (ko : ClassId) (K : jk D (ltt k km ko) s) (j : Nat) (hjL : j < 512) (hj6 : 6 * j + 6 ≤ L) (v4 : Int32) (hv : v4 = nI (6 * j)) (gM : Nat → Int32) (gnC : Int32) (gbC : Nat → Int32) (gnL : Int32) (gbL : Nat → Int32) (gnF : Int32) (gbF : Nat → Int32) (gnQ : Int32) (gbQ : Nat → Int32) (gE : Nat → Nat → Int32) (gtp : Int32) (glf : Int32) (gtr : Int32) (glh : Int32) (gov : Int32) (mW : Nat → Int32) (mC : Nat → Int32) (mL : Nat → Int32) (mR : Nat → Int32) (mQ : Nat → Int32) (mE : Nat → Int32) (mtb : Int32) (mnC : Int32) (mnL : Int32) (mnR : Int32) (mov : Int32) (mnQ : Int32) (mwr : Int32) (mwl : Int32) (mft : Int32) (mth : Int32) (mpl : Int32) (out : Nat → Int64) (hI : I j (gM, gnC, gbC, gnL, gbL, gnF, gbF, gnQ, gbQ, gE, gtp, glf, gtr, glh, gov) (mW, mC, mL, mR, mQ, mE, mtb, mnC, mnL, mnR, mov, mnQ, mwr, mwl, mft, mth, mpl))
    (ih : ∀ (j2 : Nat) (gM : Nat → Int32) (gnC : Int32) (gbC : Nat → Int32) (gnL : Int32) (gbL : Nat → Int32) (gnF : Int32) (gbF : Nat → Int32) (gnQ : Int32) (gbQ : Nat → Int32) (gE : Nat → Nat → Int32) (gtp : Int32) (glf : Int32) (gtr : Int32) (glh : Int32) (gov : Int32) (mW : Nat → Int32) (mC : Nat → Int32) (mL : Nat → Int32) (mR : Nat → Int32) (mQ : Nat → Int32) (mE : Nat → Int32) (mtb : Int32) (mnC : Int32) (mnL : Int32) (mnR : Int32) (mov : Int32) (mnQ : Int32) (mwr : Int32) (mwl : Int32) (mft : Int32) (mth : Int32) (mpl : Int32) (out : Nat → Int64) (v4 : Int32), j2 = j + 1 → v4 = nI (6 * j2) → I j2 (gM, gnC, gbC, gnL, gbL, gnF, gbF, gnQ, gbQ, gE, gtp, glf, gtr, glh, gov) (mW, mC, mL, mR, mQ, mE, mtb, mnC, mnL, mnR, mov, mnQ, mwr, mwl, mft, mth, mpl) → jw p l e room_1 s m #[Value.ref b] below meth c 7 D (fun q : Nat => s.heap.size ≤ q) (30 + j2) (33300 + 6 * j2) (lw_Z below #[Value.ref b] s) (lww a k am km qo ko gM gnC gbC gnL gbL gnF gbF gnQ gbQ gE gtp glf gtr glh gov mW mC mL mR mQ mE mtb mnC mnL mnR mov mnQ mwr mwl mft mth mpl out) [(0, .ref b), (1, .ref (a 0)), (2, .ref (am 0)), (3, .ref qo), (4, .int v4)] 23 []) :
    jw p l e room_1 s m #[Value.ref b] below meth c 7 D (fun q : Nat => s.heap.size ≤ q) (30 + j) (33300 + 6 * j) (lw_Z below #[Value.ref b] s) (lww a k am km qo ko gM gnC gbC gnL gbL gnF gbF gnQ gbQ gE gtp glf gtr glh gov mW mC mL mR mQ mE mtb mnC mnL mnR mov mnQ mwr mwl mft mth mpl out) [(0, .ref b), (1, .ref (a 0)), (2, .ref (am 0)), (3, .ref qo), (4, .int v4)] 639 [] := by
  have hbA : ¬ (fun q : Nat => s.heap.size ≤ q) b := Nat.not_le.mpr hbl
  have hv1 : vp_in (v4 + 1) L := by rw [hv]; exact lawin hj6 (by omega) (k := 1) rfl (by omega)
  have hv2 : vp_in (v4 + 2) L := by rw [hv]; exact lawin hj6 (by omega) (k := 2) rfl (by omega)
  have hv3 : vp_in (v4 + 3) L := by rw [hv]; exact lawin hj6 (by omega) (k := 3) rfl (by omega)
  have hv4 : vp_in (v4 + 4) L := by rw [hv]; exact lawin hj6 (by omega) (k := 4) rfl (by omega)
  have hv5 : vp_in (v4 + 5) L := by rw [hv]; exact lawin hj6 (by omega) (k := 5) rfl (by omega)
  have hv6 : v4 + 6 = nI (6 * (j + 1)) := by rw [hv]; exact lawsix j
  refine j_aload_n (pc := 639) C 1 dL_law_639 rfl rfl ?_
  refine j_aload_n (pc := 640) C 0 dL_law_640 rfl rfl ?_
  refine j_iload (pc := 641) C 4 dL_law_641 rfl ?_
  refine j_iconst (pc := 643) (v := 1) C dL_law_643 (by decide) ?_
  refine j_iadd (pc := 644) C dL_law_644 ?_
  refine j_sld (pc := 645) C hX hbl hbA hv1 dL_law_645 ?_
  refine j_aload_n (pc := 646) C 0 dL_law_646 rfl rfl ?_
  refine j_iload (pc := 647) C 4 dL_law_647 rfl ?_
  refine j_iconst (pc := 649) (v := 2) C dL_law_649 (by decide) ?_
  refine j_iadd (pc := 650) C dL_law_650 ?_
  refine j_sld (pc := 651) C hX hbl hbA hv2 dL_law_651 ?_
  obtain ⟨rw1, rmw1, w1gE, w1mE, w1mth, hw1, hmw1, hIw1⟩ := S_tail j _ _ _ _ _ _ _ _ _ _ _ _ _ _ _ _ _ _ _ _ _ _ _ _ _ _ _ _ _ _ _ _ (xs (v4 + 1).toNatClampNeg) (xs (v4 + 2).toNatClampNeg) hjL hI
  refine j_callVi (pc := 652) (As := [.int (xs (v4 + 1).toNatClampNeg), .int (xs (v4 + 2).toNatClampNeg)]) (rest := []) (ws' := (lww a k am km qo ko gM gnC gbC gnL gbL gnF gbF gnQ gbQ w1gE gtp glf gtr glh gov mW mC mL mR mQ mE mtb mnC mnL mnR mov mnQ mwr mwl mft mth mpl out)) C K (ci := 2) (q0 := 0) rfl rfl rfl (ctX2_tail l D a k _ _ _ _ _ _ _ _ _ _ _ _ _ _ _ _ _ _ _ hw1) gL_law_X2_tail rfl rfl rfl hdyX2_tail ⟨Nat.le_of_ble_eq_true rfl, Nat.le_of_ble_eq_true rfl⟩ (List.range 19) rfl (by decide) (jspA rfl rfl) [0, 1, 2, 3, 4, 5] rfl rfl (Nat.le_of_ble_eq_true rfl) dL_law_652 ⟨by show 30 + j ≤ 601024; omega, by show 33300 + 6 * j ≤ 7293033; omega⟩ ?_
  refine j_pop (pc := 655) C dL_law_655 rfl ?_
  refine j_aload_n (pc := 656) C 2 dL_law_656 rfl rfl ?_
  refine j_aload_n (pc := 657) C 0 dL_law_657 rfl rfl ?_
  refine j_iload (pc := 658) C 4 dL_law_658 rfl ?_
  refine j_iconst (pc := 660) (v := 1) C dL_law_660 (by decide) ?_
  refine j_iadd (pc := 661) C dL_law_661 ?_
  refine j_sld (pc := 662) C hX hbl hbA hv1 dL_law_662 ?_
  refine j_aload_n (pc := 663) C 0 dL_law_663 rfl rfl ?_
  refine j_iload (pc := 664) C 4 dL_law_664 rfl ?_
  refine j_iconst (pc := 666) (v := 2) C dL_law_666 (by decide) ?_
  refine j_iadd (pc := 667) C dL_law_667 ?_
  refine j_sld (pc := 668) C hX hbl hbA hv2 dL_law_668 ?_
  refine j_callVi (pc := 669) (As := [.int (xs (v4 + 1).toNatClampNeg), .int (xs (v4 + 2).toNatClampNeg)]) (rest := []) (ws' := (lww a k am km qo ko gM gnC gbC gnL gbL gnF gbF gnQ gbQ w1gE gtp glf gtr glh gov mW mC mL mR mQ w1mE mtb mnC mnL mnR mov mnQ mwr mwl mft w1mth mpl out)) C K (ci := 3) (q0 := 0) rfl rfl rfl (ctX3_tail l D am km _ _ _ _ _ _ _ _ _ _ _ _ _ _ _ _ _ _ _ _ _ _ hmw1) gL_law_X3_tail rfl rfl rfl hdyX3_tail ⟨Nat.le_of_ble_eq_true rfl, Nat.le_of_ble_eq_true rfl⟩ ((List.range 7).map (fun i => 19 + i)) rfl (by decide) (jspB rfl rfl rfl) [6, 7, 8, 9, 10, 11] rfl rfl (Nat.le_of_ble_eq_true rfl) dL_law_669 ⟨by show 30 + j ≤ 601024; omega, by show 33300 + 6 * j ≤ 7293033; omega⟩ ?_
  refine j_pop (pc := 672) C dL_law_672 rfl ?_
  refine j_goto (pc := 673) (tgt := 974) C dL_law_673 (by decide) ?_
  refine j_iinc (pc := 974) (v := (v4 + 6)) (lv' := [(4, .int (v4 + 6)), (0, .ref b), (1, .ref (a 0)), (2, .ref (am 0)), (3, .ref qo)]) C 4 dL_law_974 rfl rfl (by decide) rfl ?_
  refine j_goto (pc := 977) (tgt := 23) C dL_law_977 (by decide) ?_
  refine j_widen (k := 30 + (j + 1)) (n := 33300 + 6 * (j + 1)) (by omega) (by omega) ?_
  exact j_lv [1, 2, 3, 4, 0] rfl (ih (j + 1) _ _ _ _ _ _ _ _ _ _ _ _ _ _ _ _ _ _ _ _ _ _ _ _ _ _ _ _ _ _ _ _ _ _ (by omega) hv6 hIw1)
set_option maxHeartbeats 4000000 in
set_option maxRecDepth 100000 in
theorem lawc_step {p : Program} {l : Launch} (hlt : l.stackTraces = false) {e : Env} {s : State} {m : MethodId} {below : List Frame} {meth : Method} {c : Code} {D : va_G} {b L : Nat} {xs : Nat → Int32} (hL : L ≤ 3072) (C : jc p s m #[Value.ref b] c code 7 RL wsL_law (fun q : Nat => s.heap.size ≤ q)) (hr : meth.sig.returnType = ret) (hlk : meth.locks = false) (hX : va_X b L xs s s.heap) (hbl : b < s.heap.size) (hxw : xw s) (hxz : xz (fun q : Nat => s.heap.size ≤ q) s s.heap) {I : Nat → GS → MS → Prop} (S_step : sm_step I 512) (a : Nat → Nat) (k : Nat → ClassId) (am : Nat → Nat) (km : Nat → ClassId) (qo : Nat) (ko : ClassId) (K : jk D (ltt k km ko) s) (j : Nat) (hjL : j < 512) (hj6 : 6 * j + 6 ≤ L) (v4 : Int32) (hv : v4 = nI (6 * j)) (gM : Nat → Int32) (gnC : Int32) (gbC : Nat → Int32) (gnL : Int32) (gbL : Nat → Int32) (gnF : Int32) (gbF : Nat → Int32) (gnQ : Int32) (gbQ : Nat → Int32) (gE : Nat → Nat → Int32) (gtp : Int32) (glf : Int32) (gtr : Int32) (glh : Int32) (gov : Int32) (mW : Nat → Int32) (mC : Nat → Int32) (mL : Nat → Int32) (mR : Nat → Int32) (mQ : Nat → Int32) (mE : Nat → Int32) (mtb : Int32) (mnC : Int32) (mnL : Int32) (mnR : Int32) (mov : Int32) (mnQ : Int32) (mwr : Int32) (mwl : Int32) (mft : Int32) (mth : Int32) (mpl : Int32) (out : Nat → Int64) (hI : I j (gM, gnC, gbC, gnL, gbL, gnF, gbF, gnQ, gbQ, gE, gtp, glf, gtr, glh, gov) (mW, mC, mL, mR, mQ, mE, mtb, mnC, mnL, mnR, mov, mnQ, mwr, mwl, mft, mth, mpl))
    (ih : ∀ (j2 : Nat) (gM : Nat → Int32) (gnC : Int32) (gbC : Nat → Int32) (gnL : Int32) (gbL : Nat → Int32) (gnF : Int32) (gbF : Nat → Int32) (gnQ : Int32) (gbQ : Nat → Int32) (gE : Nat → Nat → Int32) (gtp : Int32) (glf : Int32) (gtr : Int32) (glh : Int32) (gov : Int32) (mW : Nat → Int32) (mC : Nat → Int32) (mL : Nat → Int32) (mR : Nat → Int32) (mQ : Nat → Int32) (mE : Nat → Int32) (mtb : Int32) (mnC : Int32) (mnL : Int32) (mnR : Int32) (mov : Int32) (mnQ : Int32) (mwr : Int32) (mwl : Int32) (mft : Int32) (mth : Int32) (mpl : Int32) (out : Nat → Int64) (v4 : Int32), j2 = j + 1 → v4 = nI (6 * j2) → I j2 (gM, gnC, gbC, gnL, gbL, gnF, gbF, gnQ, gbQ, gE, gtp, glf, gtr, glh, gov) (mW, mC, mL, mR, mQ, mE, mtb, mnC, mnL, mnR, mov, mnQ, mwr, mwl, mft, mth, mpl) → jw p l e room_1 s m #[Value.ref b] below meth c 7 D (fun q : Nat => s.heap.size ≤ q) (30 + j2) (33300 + 6 * j2) (lw_Z below #[Value.ref b] s) (lww a k am km qo ko gM gnC gbC gnL gbL gnF gbF gnQ gbQ gE gtp glf gtr glh gov mW mC mL mR mQ mE mtb mnC mnL mnR mov mnQ mwr mwl mft mth mpl out) [(0, .ref b), (1, .ref (a 0)), (2, .ref (am 0)), (3, .ref qo), (4, .int v4)] 23 []) :
    jw p l e room_1 s m #[Value.ref b] below meth c 7 D (fun q : Nat => s.heap.size ≤ q) (30 + j) (33300 + 6 * j) (lw_Z below #[Value.ref b] s) (lww a k am km qo ko gM gnC gbC gnL gbL gnF gbF gnQ gbQ gE gtp glf gtr glh gov mW mC mL mR mQ mE mtb mnC mnL mnR mov mnQ mwr mwl mft mth mpl out) [(0, .ref b), (1, .ref (a 0)), (2, .ref (am 0)), (3, .ref qo), (4, .int v4)] 676 [] := by
  have hbA : ¬ (fun q : Nat => s.heap.size ≤ q) b := Nat.not_le.mpr hbl
  have hv1 : vp_in (v4 + 1) L := by rw [hv]; exact lawin hj6 (by omega) (k := 1) rfl (by omega)
  have hv2 : vp_in (v4 + 2) L := by rw [hv]; exact lawin hj6 (by omega) (k := 2) rfl (by omega)
  have hv3 : vp_in (v4 + 3) L := by rw [hv]; exact lawin hj6 (by omega) (k := 3) rfl (by omega)
  have hv4 : vp_in (v4 + 4) L := by rw [hv]; exact lawin hj6 (by omega) (k := 4) rfl (by omega)
  have hv5 : vp_in (v4 + 5) L := by rw [hv]; exact lawin hj6 (by omega) (k := 5) rfl (by omega)
  have hv6 : v4 + 6 = nI (6 * (j + 1)) := by rw [hv]; exact lawsix j
  refine j_aload_n (pc := 676) C 1 dL_law_676 rfl rfl ?_
  refine j_aload_n (pc := 677) C 0 dL_law_677 rfl rfl ?_
  refine j_iload (pc := 678) C 4 dL_law_678 rfl ?_
  refine j_iconst (pc := 680) (v := 1) C dL_law_680 (by decide) ?_
  refine j_iadd (pc := 681) C dL_law_681 ?_
  refine j_sld (pc := 682) C hX hbl hbA hv1 dL_law_682 ?_
  refine j_aload_n (pc := 683) C 0 dL_law_683 rfl rfl ?_
  refine j_iload (pc := 684) C 4 dL_law_684 rfl ?_
  refine j_iconst (pc := 686) (v := 2) C dL_law_686 (by decide) ?_
  refine j_iadd (pc := 687) C dL_law_687 ?_
  refine j_sld (pc := 688) C hX hbl hbA hv2 dL_law_688 ?_
  obtain ⟨rw1, rmw1, w1gM, w1gnC, w1gbC, w1gnL, w1gbL, w1gnF, w1gbF, w1gE, w1glf, w1gtr, w1glh, w1gov, w1mW, w1mC, w1mL, w1mR, w1mE, w1mnC, w1mnL, w1mnR, w1mov, w1mwr, w1mwl, w1mft, w1mth, w1mpl, hw1, hmw1, hIw1⟩ := S_step j _ _ _ _ _ _ _ _ _ _ _ _ _ _ _ _ _ _ _ _ _ _ _ _ _ _ _ _ _ _ _ _ (xs (v4 + 1).toNatClampNeg) (xs (v4 + 2).toNatClampNeg) hjL hI
  refine j_callVi (pc := 689) (As := [.int (xs (v4 + 1).toNatClampNeg), .int (xs (v4 + 2).toNatClampNeg)]) (rest := []) (ws' := (lww a k am km qo ko w1gM w1gnC w1gbC w1gnL w1gbL w1gnF w1gbF gnQ gbQ w1gE gtp w1glf w1gtr w1glh w1gov mW mC mL mR mQ mE mtb mnC mnL mnR mov mnQ mwr mwl mft mth mpl out)) C K (ci := 2) (q0 := 0) rfl rfl rfl (ctX2_step l D a k _ _ _ _ _ _ _ _ _ _ _ _ _ _ _ _ _ _ _ _ _ _ _ _ _ _ _ _ _ _ hw1) gL_law_X2_step rfl rfl rfl hdyX2_step ⟨Nat.le_of_ble_eq_true rfl, Nat.le_of_ble_eq_true rfl⟩ (List.range 19) rfl (by decide) (jspA rfl rfl) [0, 1, 2, 3, 4, 5] rfl rfl (Nat.le_of_ble_eq_true rfl) dL_law_689 ⟨by show 30 + j ≤ 601024; omega, by show 33300 + 6 * j ≤ 7293033; omega⟩ ?_
  refine j_pop (pc := 692) C dL_law_692 rfl ?_
  refine j_aload_n (pc := 693) C 2 dL_law_693 rfl rfl ?_
  refine j_aload_n (pc := 694) C 0 dL_law_694 rfl rfl ?_
  refine j_iload (pc := 695) C 4 dL_law_695 rfl ?_
  refine j_iconst (pc := 697) (v := 1) C dL_law_697 (by decide) ?_
  refine j_iadd (pc := 698) C dL_law_698 ?_
  refine j_sld (pc := 699) C hX hbl hbA hv1 dL_law_699 ?_
  refine j_aload_n (pc := 700) C 0 dL_law_700 rfl rfl ?_
  refine j_iload (pc := 701) C 4 dL_law_701 rfl ?_
  refine j_iconst (pc := 703) (v := 2) C dL_law_703 (by decide) ?_
  refine j_iadd (pc := 704) C dL_law_704 ?_
  refine j_sld (pc := 705) C hX hbl hbA hv2 dL_law_705 ?_
  refine j_callVi (pc := 706) (As := [.int (xs (v4 + 1).toNatClampNeg), .int (xs (v4 + 2).toNatClampNeg)]) (rest := []) (ws' := (lww a k am km qo ko w1gM w1gnC w1gbC w1gnL w1gbL w1gnF w1gbF gnQ gbQ w1gE gtp w1glf w1gtr w1glh w1gov w1mW w1mC w1mL w1mR mQ w1mE mtb w1mnC w1mnL w1mnR w1mov mnQ w1mwr w1mwl w1mft w1mth w1mpl out)) C K (ci := 3) (q0 := 0) rfl rfl rfl (ctX3_step l D am km _ _ _ _ _ _ _ _ _ _ _ _ _ _ _ _ _ _ _ _ _ _ _ _ _ _ _ _ _ _ _ _ _ _ hmw1) gL_law_X3_step rfl rfl rfl hdyX3_step ⟨Nat.le_of_ble_eq_true rfl, Nat.le_of_ble_eq_true rfl⟩ ((List.range 7).map (fun i => 19 + i)) rfl (by decide) (jspB rfl rfl rfl) [6, 7, 8, 9, 10, 11] rfl rfl (Nat.le_of_ble_eq_true rfl) dL_law_706 ⟨by show 30 + j ≤ 601024; omega, by show 33300 + 6 * j ≤ 7293033; omega⟩ ?_
  refine j_pop (pc := 709) C dL_law_709 rfl ?_
  refine j_goto (pc := 710) (tgt := 974) C dL_law_710 (by decide) ?_
  refine j_iinc (pc := 974) (v := (v4 + 6)) (lv' := [(4, .int (v4 + 6)), (0, .ref b), (1, .ref (a 0)), (2, .ref (am 0)), (3, .ref qo)]) C 4 dL_law_974 rfl rfl (by decide) rfl ?_
  refine j_goto (pc := 977) (tgt := 23) C dL_law_977 (by decide) ?_
  refine j_widen (k := 30 + (j + 1)) (n := 33300 + 6 * (j + 1)) (by omega) (by omega) ?_
  exact j_lv [1, 2, 3, 4, 0] rfl (ih (j + 1) _ _ _ _ _ _ _ _ _ _ _ _ _ _ _ _ _ _ _ _ _ _ _ _ _ _ _ _ _ _ _ _ _ _ (by omega) hv6 hIw1)
set_option maxHeartbeats 4000000 in
set_option maxRecDepth 100000 in
theorem lawc_resume {p : Program} {l : Launch} (hlt : l.stackTraces = false) {e : Env} {s : State} {m : MethodId} {below : List Frame} {meth : Method} {c : Code} {D : va_G} {b L : Nat} {xs : Nat → Int32} (hL : L ≤ 3072) (C : jc p s m #[Value.ref b] c code 7 RL wsL_law (fun q : Nat => s.heap.size ≤ q)) (hr : meth.sig.returnType = ret) (hlk : meth.locks = false) (hX : va_X b L xs s s.heap) (hbl : b < s.heap.size) (hxw : xw s) (hxz : xz (fun q : Nat => s.heap.size ≤ q) s s.heap) {I : Nat → GS → MS → Prop} (S_resume : sm_resume I 512) (a : Nat → Nat) (k : Nat → ClassId) (am : Nat → Nat) (km : Nat → ClassId) (qo : Nat) (ko : ClassId) (K : jk D (ltt k km ko) s) (j : Nat) (hjL : j < 512) (hj6 : 6 * j + 6 ≤ L) (v4 : Int32) (hv : v4 = nI (6 * j)) (gM : Nat → Int32) (gnC : Int32) (gbC : Nat → Int32) (gnL : Int32) (gbL : Nat → Int32) (gnF : Int32) (gbF : Nat → Int32) (gnQ : Int32) (gbQ : Nat → Int32) (gE : Nat → Nat → Int32) (gtp : Int32) (glf : Int32) (gtr : Int32) (glh : Int32) (gov : Int32) (mW : Nat → Int32) (mC : Nat → Int32) (mL : Nat → Int32) (mR : Nat → Int32) (mQ : Nat → Int32) (mE : Nat → Int32) (mtb : Int32) (mnC : Int32) (mnL : Int32) (mnR : Int32) (mov : Int32) (mnQ : Int32) (mwr : Int32) (mwl : Int32) (mft : Int32) (mth : Int32) (mpl : Int32) (out : Nat → Int64) (hI : I j (gM, gnC, gbC, gnL, gbL, gnF, gbF, gnQ, gbQ, gE, gtp, glf, gtr, glh, gov) (mW, mC, mL, mR, mQ, mE, mtb, mnC, mnL, mnR, mov, mnQ, mwr, mwl, mft, mth, mpl))
    (ih : ∀ (j2 : Nat) (gM : Nat → Int32) (gnC : Int32) (gbC : Nat → Int32) (gnL : Int32) (gbL : Nat → Int32) (gnF : Int32) (gbF : Nat → Int32) (gnQ : Int32) (gbQ : Nat → Int32) (gE : Nat → Nat → Int32) (gtp : Int32) (glf : Int32) (gtr : Int32) (glh : Int32) (gov : Int32) (mW : Nat → Int32) (mC : Nat → Int32) (mL : Nat → Int32) (mR : Nat → Int32) (mQ : Nat → Int32) (mE : Nat → Int32) (mtb : Int32) (mnC : Int32) (mnL : Int32) (mnR : Int32) (mov : Int32) (mnQ : Int32) (mwr : Int32) (mwl : Int32) (mft : Int32) (mth : Int32) (mpl : Int32) (out : Nat → Int64) (v4 : Int32), j2 = j + 1 → v4 = nI (6 * j2) → I j2 (gM, gnC, gbC, gnL, gbL, gnF, gbF, gnQ, gbQ, gE, gtp, glf, gtr, glh, gov) (mW, mC, mL, mR, mQ, mE, mtb, mnC, mnL, mnR, mov, mnQ, mwr, mwl, mft, mth, mpl) → jw p l e room_1 s m #[Value.ref b] below meth c 7 D (fun q : Nat => s.heap.size ≤ q) (30 + j2) (33300 + 6 * j2) (lw_Z below #[Value.ref b] s) (lww a k am km qo ko gM gnC gbC gnL gbL gnF gbF gnQ gbQ gE gtp glf gtr glh gov mW mC mL mR mQ mE mtb mnC mnL mnR mov mnQ mwr mwl mft mth mpl out) [(0, .ref b), (1, .ref (a 0)), (2, .ref (am 0)), (3, .ref qo), (4, .int v4)] 23 []) :
    jw p l e room_1 s m #[Value.ref b] below meth c 7 D (fun q : Nat => s.heap.size ≤ q) (30 + j) (33300 + 6 * j) (lw_Z below #[Value.ref b] s) (lww a k am km qo ko gM gnC gbC gnL gbL gnF gbF gnQ gbQ gE gtp glf gtr glh gov mW mC mL mR mQ mE mtb mnC mnL mnR mov mnQ mwr mwl mft mth mpl out) [(0, .ref b), (1, .ref (a 0)), (2, .ref (am 0)), (3, .ref qo), (4, .int v4)] 713 [] := by
  have hbA : ¬ (fun q : Nat => s.heap.size ≤ q) b := Nat.not_le.mpr hbl
  have hv1 : vp_in (v4 + 1) L := by rw [hv]; exact lawin hj6 (by omega) (k := 1) rfl (by omega)
  have hv2 : vp_in (v4 + 2) L := by rw [hv]; exact lawin hj6 (by omega) (k := 2) rfl (by omega)
  have hv3 : vp_in (v4 + 3) L := by rw [hv]; exact lawin hj6 (by omega) (k := 3) rfl (by omega)
  have hv4 : vp_in (v4 + 4) L := by rw [hv]; exact lawin hj6 (by omega) (k := 4) rfl (by omega)
  have hv5 : vp_in (v4 + 5) L := by rw [hv]; exact lawin hj6 (by omega) (k := 5) rfl (by omega)
  have hv6 : v4 + 6 = nI (6 * (j + 1)) := by rw [hv]; exact lawsix j
  refine j_aload_n (pc := 713) C 1 dL_law_713 rfl rfl ?_
  refine j_aload_n (pc := 714) C 0 dL_law_714 rfl rfl ?_
  refine j_iload (pc := 715) C 4 dL_law_715 rfl ?_
  refine j_iconst (pc := 717) (v := 1) C dL_law_717 (by decide) ?_
  refine j_iadd (pc := 718) C dL_law_718 ?_
  refine j_sld (pc := 719) C hX hbl hbA hv1 dL_law_719 ?_
  obtain ⟨rw1, rmw1, w1gE, w1mE, w1mth, hw1, hmw1, hIw1⟩ := S_resume j _ _ _ _ _ _ _ _ _ _ _ _ _ _ _ _ _ _ _ _ _ _ _ _ _ _ _ _ _ _ _ _ (xs (v4 + 1).toNatClampNeg) hjL hI
  refine j_callVi (pc := 720) (As := [.int (xs (v4 + 1).toNatClampNeg)]) (rest := []) (ws' := (lww a k am km qo ko gM gnC gbC gnL gbL gnF gbF gnQ gbQ w1gE gtp glf gtr glh gov mW mC mL mR mQ mE mtb mnC mnL mnR mov mnQ mwr mwl mft mth mpl out)) C K (ci := 2) (q0 := 0) rfl rfl rfl (ctX2_resume l D a k _ _ _ _ _ _ _ _ _ _ _ _ _ _ _ _ _ _ hw1) gL_law_X2_resume rfl rfl rfl hdyX2_resume ⟨Nat.le_of_ble_eq_true rfl, Nat.le_of_ble_eq_true rfl⟩ (List.range 19) rfl (by decide) (jspA rfl rfl) [0, 1, 2, 3, 4, 5] rfl rfl (Nat.le_of_ble_eq_true rfl) dL_law_720 ⟨by show 30 + j ≤ 601024; omega, by show 33300 + 6 * j ≤ 7293033; omega⟩ ?_
  refine j_pop (pc := 723) C dL_law_723 rfl ?_
  refine j_aload_n (pc := 724) C 2 dL_law_724 rfl rfl ?_
  refine j_aload_n (pc := 725) C 0 dL_law_725 rfl rfl ?_
  refine j_iload (pc := 726) C 4 dL_law_726 rfl ?_
  refine j_iconst (pc := 728) (v := 1) C dL_law_728 (by decide) ?_
  refine j_iadd (pc := 729) C dL_law_729 ?_
  refine j_sld (pc := 730) C hX hbl hbA hv1 dL_law_730 ?_
  refine j_callVi (pc := 731) (As := [.int (xs (v4 + 1).toNatClampNeg)]) (rest := []) (ws' := (lww a k am km qo ko gM gnC gbC gnL gbL gnF gbF gnQ gbQ w1gE gtp glf gtr glh gov mW mC mL mR mQ w1mE mtb mnC mnL mnR mov mnQ mwr mwl mft w1mth mpl out)) C K (ci := 3) (q0 := 0) rfl rfl rfl (ctX3_resume l D am km _ _ _ _ _ _ _ _ _ _ _ _ _ _ _ _ _ _ _ _ _ hmw1) gL_law_X3_resume rfl rfl rfl hdyX3_resume ⟨Nat.le_of_ble_eq_true rfl, Nat.le_of_ble_eq_true rfl⟩ ((List.range 7).map (fun i => 19 + i)) rfl (by decide) (jspB rfl rfl rfl) [6, 7, 8, 9, 10, 11] rfl rfl (Nat.le_of_ble_eq_true rfl) dL_law_731 ⟨by show 30 + j ≤ 601024; omega, by show 33300 + 6 * j ≤ 7293033; omega⟩ ?_
  refine j_pop (pc := 734) C dL_law_734 rfl ?_
  refine j_goto (pc := 735) (tgt := 974) C dL_law_735 (by decide) ?_
  refine j_iinc (pc := 974) (v := (v4 + 6)) (lv' := [(4, .int (v4 + 6)), (0, .ref b), (1, .ref (a 0)), (2, .ref (am 0)), (3, .ref qo)]) C 4 dL_law_974 rfl rfl (by decide) rfl ?_
  refine j_goto (pc := 977) (tgt := 23) C dL_law_977 (by decide) ?_
  refine j_widen (k := 30 + (j + 1)) (n := 33300 + 6 * (j + 1)) (by omega) (by omega) ?_
  exact j_lv [1, 2, 3, 4, 0] rfl (ih (j + 1) _ _ _ _ _ _ _ _ _ _ _ _ _ _ _ _ _ _ _ _ _ _ _ _ _ _ _ _ _ _ _ _ _ _ (by omega) hv6 hIw1)
set_option maxHeartbeats 4000000 in
set_option maxRecDepth 100000 in
theorem lawc_engine {p : Program} {l : Launch} (hlt : l.stackTraces = false) {e : Env} {s : State} {m : MethodId} {below : List Frame} {meth : Method} {c : Code} {D : va_G} {b L : Nat} {xs : Nat → Int32} (hL : L ≤ 3072) (C : jc p s m #[Value.ref b] c code 7 RL wsL_law (fun q : Nat => s.heap.size ≤ q)) (hr : meth.sig.returnType = ret) (hlk : meth.locks = false) (hX : va_X b L xs s s.heap) (hbl : b < s.heap.size) (hxw : xw s) (hxz : xz (fun q : Nat => s.heap.size ≤ q) s s.heap) {I : Nat → GS → MS → Prop} (S_engine : sm_engine I 512) (a : Nat → Nat) (k : Nat → ClassId) (am : Nat → Nat) (km : Nat → ClassId) (qo : Nat) (ko : ClassId) (K : jk D (ltt k km ko) s) (j : Nat) (hjL : j < 512) (hj6 : 6 * j + 6 ≤ L) (v4 : Int32) (hv : v4 = nI (6 * j)) (gM : Nat → Int32) (gnC : Int32) (gbC : Nat → Int32) (gnL : Int32) (gbL : Nat → Int32) (gnF : Int32) (gbF : Nat → Int32) (gnQ : Int32) (gbQ : Nat → Int32) (gE : Nat → Nat → Int32) (gtp : Int32) (glf : Int32) (gtr : Int32) (glh : Int32) (gov : Int32) (mW : Nat → Int32) (mC : Nat → Int32) (mL : Nat → Int32) (mR : Nat → Int32) (mQ : Nat → Int32) (mE : Nat → Int32) (mtb : Int32) (mnC : Int32) (mnL : Int32) (mnR : Int32) (mov : Int32) (mnQ : Int32) (mwr : Int32) (mwl : Int32) (mft : Int32) (mth : Int32) (mpl : Int32) (out : Nat → Int64) (hI : I j (gM, gnC, gbC, gnL, gbL, gnF, gbF, gnQ, gbQ, gE, gtp, glf, gtr, glh, gov) (mW, mC, mL, mR, mQ, mE, mtb, mnC, mnL, mnR, mov, mnQ, mwr, mwl, mft, mth, mpl))
    (ih : ∀ (j2 : Nat) (gM : Nat → Int32) (gnC : Int32) (gbC : Nat → Int32) (gnL : Int32) (gbL : Nat → Int32) (gnF : Int32) (gbF : Nat → Int32) (gnQ : Int32) (gbQ : Nat → Int32) (gE : Nat → Nat → Int32) (gtp : Int32) (glf : Int32) (gtr : Int32) (glh : Int32) (gov : Int32) (mW : Nat → Int32) (mC : Nat → Int32) (mL : Nat → Int32) (mR : Nat → Int32) (mQ : Nat → Int32) (mE : Nat → Int32) (mtb : Int32) (mnC : Int32) (mnL : Int32) (mnR : Int32) (mov : Int32) (mnQ : Int32) (mwr : Int32) (mwl : Int32) (mft : Int32) (mth : Int32) (mpl : Int32) (out : Nat → Int64) (v4 : Int32), j2 = j + 1 → v4 = nI (6 * j2) → I j2 (gM, gnC, gbC, gnL, gbL, gnF, gbF, gnQ, gbQ, gE, gtp, glf, gtr, glh, gov) (mW, mC, mL, mR, mQ, mE, mtb, mnC, mnL, mnR, mov, mnQ, mwr, mwl, mft, mth, mpl) → jw p l e room_1 s m #[Value.ref b] below meth c 7 D (fun q : Nat => s.heap.size ≤ q) (30 + j2) (33300 + 6 * j2) (lw_Z below #[Value.ref b] s) (lww a k am km qo ko gM gnC gbC gnL gbL gnF gbF gnQ gbQ gE gtp glf gtr glh gov mW mC mL mR mQ mE mtb mnC mnL mnR mov mnQ mwr mwl mft mth mpl out) [(0, .ref b), (1, .ref (a 0)), (2, .ref (am 0)), (3, .ref qo), (4, .int v4)] 23 []) :
    jw p l e room_1 s m #[Value.ref b] below meth c 7 D (fun q : Nat => s.heap.size ≤ q) (30 + j) (33300 + 6 * j) (lw_Z below #[Value.ref b] s) (lww a k am km qo ko gM gnC gbC gnL gbL gnF gbF gnQ gbQ gE gtp glf gtr glh gov mW mC mL mR mQ mE mtb mnC mnL mnR mov mnQ mwr mwl mft mth mpl out) [(0, .ref b), (1, .ref (a 0)), (2, .ref (am 0)), (3, .ref qo), (4, .int v4)] 738 [] := by
  have hbA : ¬ (fun q : Nat => s.heap.size ≤ q) b := Nat.not_le.mpr hbl
  have hv1 : vp_in (v4 + 1) L := by rw [hv]; exact lawin hj6 (by omega) (k := 1) rfl (by omega)
  have hv2 : vp_in (v4 + 2) L := by rw [hv]; exact lawin hj6 (by omega) (k := 2) rfl (by omega)
  have hv3 : vp_in (v4 + 3) L := by rw [hv]; exact lawin hj6 (by omega) (k := 3) rfl (by omega)
  have hv4 : vp_in (v4 + 4) L := by rw [hv]; exact lawin hj6 (by omega) (k := 4) rfl (by omega)
  have hv5 : vp_in (v4 + 5) L := by rw [hv]; exact lawin hj6 (by omega) (k := 5) rfl (by omega)
  have hv6 : v4 + 6 = nI (6 * (j + 1)) := by rw [hv]; exact lawsix j
  refine j_aload_n (pc := 738) C 1 dL_law_738 rfl rfl ?_
  refine j_aload_n (pc := 739) C 0 dL_law_739 rfl rfl ?_
  refine j_iload (pc := 740) C 4 dL_law_740 rfl ?_
  refine j_iconst (pc := 742) (v := 1) C dL_law_742 (by decide) ?_
  refine j_iadd (pc := 743) C dL_law_743 ?_
  refine j_sld (pc := 744) C hX hbl hbA hv1 dL_law_744 ?_
  refine j_aload_n (pc := 745) C 0 dL_law_745 rfl rfl ?_
  refine j_iload (pc := 746) C 4 dL_law_746 rfl ?_
  refine j_iconst (pc := 748) (v := 2) C dL_law_748 (by decide) ?_
  refine j_iadd (pc := 749) C dL_law_749 ?_
  refine j_sld (pc := 750) C hX hbl hbA hv2 dL_law_750 ?_
  obtain ⟨rw1, rmw1, w1mth, hw1, hmw1, hIw1⟩ := S_engine j _ _ _ _ _ _ _ _ _ _ _ _ _ _ _ _ _ _ _ _ _ _ _ _ _ _ _ _ _ _ _ _ (xs (v4 + 1).toNatClampNeg) (xs (v4 + 2).toNatClampNeg) hjL hI
  refine j_callVi (pc := 751) (As := [.int (xs (v4 + 1).toNatClampNeg), .int (xs (v4 + 2).toNatClampNeg)]) (rest := []) (ws' := (lww a k am km qo ko gM gnC gbC gnL gbL gnF gbF gnQ gbQ gE gtp glf gtr glh gov mW mC mL mR mQ mE mtb mnC mnL mnR mov mnQ mwr mwl mft mth mpl out)) C K (ci := 2) (q0 := 0) rfl rfl rfl (ctX2_engine l D a k _ _ _ _ _ _ _ _ _ _ _ _ _ _ _ _ _ _ hw1) gL_law_X2_engine rfl rfl rfl hdyX2_engine ⟨Nat.le_of_ble_eq_true rfl, Nat.le_of_ble_eq_true rfl⟩ (List.range 19) rfl (by decide) (jspA rfl rfl) [0, 1, 2, 3, 4, 5] rfl rfl (Nat.le_of_ble_eq_true rfl) dL_law_751 ⟨by show 30 + j ≤ 601024; omega, by show 33300 + 6 * j ≤ 7293033; omega⟩ ?_
  refine j_pop (pc := 754) C dL_law_754 rfl ?_
  refine j_aload_n (pc := 755) C 2 dL_law_755 rfl rfl ?_
  refine j_aload_n (pc := 756) C 0 dL_law_756 rfl rfl ?_
  refine j_iload (pc := 757) C 4 dL_law_757 rfl ?_
  refine j_iconst (pc := 759) (v := 1) C dL_law_759 (by decide) ?_
  refine j_iadd (pc := 760) C dL_law_760 ?_
  refine j_sld (pc := 761) C hX hbl hbA hv1 dL_law_761 ?_
  refine j_aload_n (pc := 762) C 0 dL_law_762 rfl rfl ?_
  refine j_iload (pc := 763) C 4 dL_law_763 rfl ?_
  refine j_iconst (pc := 765) (v := 2) C dL_law_765 (by decide) ?_
  refine j_iadd (pc := 766) C dL_law_766 ?_
  refine j_sld (pc := 767) C hX hbl hbA hv2 dL_law_767 ?_
  refine j_callVi (pc := 768) (As := [.int (xs (v4 + 1).toNatClampNeg), .int (xs (v4 + 2).toNatClampNeg)]) (rest := []) (ws' := (lww a k am km qo ko gM gnC gbC gnL gbL gnF gbF gnQ gbQ gE gtp glf gtr glh gov mW mC mL mR mQ mE mtb mnC mnL mnR mov mnQ mwr mwl mft w1mth mpl out)) C K (ci := 3) (q0 := 0) rfl rfl rfl (ctX3_engine l D am km _ _ _ _ _ _ _ _ _ _ _ _ _ _ _ _ _ _ _ _ _ hmw1) gL_law_X3_engine rfl rfl rfl hdyX3_engine ⟨Nat.le_of_ble_eq_true rfl, Nat.le_of_ble_eq_true rfl⟩ ((List.range 7).map (fun i => 19 + i)) rfl (by decide) (jspB rfl rfl rfl) [6, 7, 8, 9, 10, 11] rfl rfl (Nat.le_of_ble_eq_true rfl) dL_law_768 ⟨by show 30 + j ≤ 601024; omega, by show 33300 + 6 * j ≤ 7293033; omega⟩ ?_
  refine j_pop (pc := 771) C dL_law_771 rfl ?_
  refine j_goto (pc := 772) (tgt := 974) C dL_law_772 (by decide) ?_
  refine j_iinc (pc := 974) (v := (v4 + 6)) (lv' := [(4, .int (v4 + 6)), (0, .ref b), (1, .ref (a 0)), (2, .ref (am 0)), (3, .ref qo)]) C 4 dL_law_974 rfl rfl (by decide) rfl ?_
  refine j_goto (pc := 977) (tgt := 23) C dL_law_977 (by decide) ?_
  refine j_widen (k := 30 + (j + 1)) (n := 33300 + 6 * (j + 1)) (by omega) (by omega) ?_
  exact j_lv [1, 2, 3, 4, 0] rfl (ih (j + 1) _ _ _ _ _ _ _ _ _ _ _ _ _ _ _ _ _ _ _ _ _ _ _ _ _ _ _ _ _ _ _ _ _ _ (by omega) hv6 hIw1)
set_option maxHeartbeats 4000000 in
set_option maxRecDepth 100000 in
theorem lawc_command {p : Program} {l : Launch} (hlt : l.stackTraces = false) {e : Env} {s : State} {m : MethodId} {below : List Frame} {meth : Method} {c : Code} {D : va_G} {b L : Nat} {xs : Nat → Int32} (hL : L ≤ 3072) (C : jc p s m #[Value.ref b] c code 7 RL wsL_law (fun q : Nat => s.heap.size ≤ q)) (hr : meth.sig.returnType = ret) (hlk : meth.locks = false) (hX : va_X b L xs s s.heap) (hbl : b < s.heap.size) (hxw : xw s) (hxz : xz (fun q : Nat => s.heap.size ≤ q) s s.heap) {I : Nat → GS → MS → Prop} (S_command : sm_command I 512) (a : Nat → Nat) (k : Nat → ClassId) (am : Nat → Nat) (km : Nat → ClassId) (qo : Nat) (ko : ClassId) (K : jk D (ltt k km ko) s) (j : Nat) (hjL : j < 512) (hj6 : 6 * j + 6 ≤ L) (v4 : Int32) (hv : v4 = nI (6 * j)) (gM : Nat → Int32) (gnC : Int32) (gbC : Nat → Int32) (gnL : Int32) (gbL : Nat → Int32) (gnF : Int32) (gbF : Nat → Int32) (gnQ : Int32) (gbQ : Nat → Int32) (gE : Nat → Nat → Int32) (gtp : Int32) (glf : Int32) (gtr : Int32) (glh : Int32) (gov : Int32) (mW : Nat → Int32) (mC : Nat → Int32) (mL : Nat → Int32) (mR : Nat → Int32) (mQ : Nat → Int32) (mE : Nat → Int32) (mtb : Int32) (mnC : Int32) (mnL : Int32) (mnR : Int32) (mov : Int32) (mnQ : Int32) (mwr : Int32) (mwl : Int32) (mft : Int32) (mth : Int32) (mpl : Int32) (out : Nat → Int64) (hI : I j (gM, gnC, gbC, gnL, gbL, gnF, gbF, gnQ, gbQ, gE, gtp, glf, gtr, glh, gov) (mW, mC, mL, mR, mQ, mE, mtb, mnC, mnL, mnR, mov, mnQ, mwr, mwl, mft, mth, mpl))
    (ih : ∀ (j2 : Nat) (gM : Nat → Int32) (gnC : Int32) (gbC : Nat → Int32) (gnL : Int32) (gbL : Nat → Int32) (gnF : Int32) (gbF : Nat → Int32) (gnQ : Int32) (gbQ : Nat → Int32) (gE : Nat → Nat → Int32) (gtp : Int32) (glf : Int32) (gtr : Int32) (glh : Int32) (gov : Int32) (mW : Nat → Int32) (mC : Nat → Int32) (mL : Nat → Int32) (mR : Nat → Int32) (mQ : Nat → Int32) (mE : Nat → Int32) (mtb : Int32) (mnC : Int32) (mnL : Int32) (mnR : Int32) (mov : Int32) (mnQ : Int32) (mwr : Int32) (mwl : Int32) (mft : Int32) (mth : Int32) (mpl : Int32) (out : Nat → Int64) (v4 : Int32), j2 = j + 1 → v4 = nI (6 * j2) → I j2 (gM, gnC, gbC, gnL, gbL, gnF, gbF, gnQ, gbQ, gE, gtp, glf, gtr, glh, gov) (mW, mC, mL, mR, mQ, mE, mtb, mnC, mnL, mnR, mov, mnQ, mwr, mwl, mft, mth, mpl) → jw p l e room_1 s m #[Value.ref b] below meth c 7 D (fun q : Nat => s.heap.size ≤ q) (30 + j2) (33300 + 6 * j2) (lw_Z below #[Value.ref b] s) (lww a k am km qo ko gM gnC gbC gnL gbL gnF gbF gnQ gbQ gE gtp glf gtr glh gov mW mC mL mR mQ mE mtb mnC mnL mnR mov mnQ mwr mwl mft mth mpl out) [(0, .ref b), (1, .ref (a 0)), (2, .ref (am 0)), (3, .ref qo), (4, .int v4)] 23 []) :
    jw p l e room_1 s m #[Value.ref b] below meth c 7 D (fun q : Nat => s.heap.size ≤ q) (30 + j) (33300 + 6 * j) (lw_Z below #[Value.ref b] s) (lww a k am km qo ko gM gnC gbC gnL gbL gnF gbF gnQ gbQ gE gtp glf gtr glh gov mW mC mL mR mQ mE mtb mnC mnL mnR mov mnQ mwr mwl mft mth mpl out) [(0, .ref b), (1, .ref (a 0)), (2, .ref (am 0)), (3, .ref qo), (4, .int v4)] 775 [] := by
  have hbA : ¬ (fun q : Nat => s.heap.size ≤ q) b := Nat.not_le.mpr hbl
  have hv1 : vp_in (v4 + 1) L := by rw [hv]; exact lawin hj6 (by omega) (k := 1) rfl (by omega)
  have hv2 : vp_in (v4 + 2) L := by rw [hv]; exact lawin hj6 (by omega) (k := 2) rfl (by omega)
  have hv3 : vp_in (v4 + 3) L := by rw [hv]; exact lawin hj6 (by omega) (k := 3) rfl (by omega)
  have hv4 : vp_in (v4 + 4) L := by rw [hv]; exact lawin hj6 (by omega) (k := 4) rfl (by omega)
  have hv5 : vp_in (v4 + 5) L := by rw [hv]; exact lawin hj6 (by omega) (k := 5) rfl (by omega)
  have hv6 : v4 + 6 = nI (6 * (j + 1)) := by rw [hv]; exact lawsix j
  refine j_aload_n (pc := 775) C 1 dL_law_775 rfl rfl ?_
  refine j_aload_n (pc := 776) C 0 dL_law_776 rfl rfl ?_
  refine j_iload (pc := 777) C 4 dL_law_777 rfl ?_
  refine j_iconst (pc := 779) (v := 1) C dL_law_779 (by decide) ?_
  refine j_iadd (pc := 780) C dL_law_780 ?_
  refine j_sld (pc := 781) C hX hbl hbA hv1 dL_law_781 ?_
  refine j_aload_n (pc := 782) C 0 dL_law_782 rfl rfl ?_
  refine j_iload (pc := 783) C 4 dL_law_783 rfl ?_
  refine j_iconst (pc := 785) (v := 2) C dL_law_785 (by decide) ?_
  refine j_iadd (pc := 786) C dL_law_786 ?_
  refine j_sld (pc := 787) C hX hbl hbA hv2 dL_law_787 ?_
  refine j_aload_n (pc := 788) C 0 dL_law_788 rfl rfl ?_
  refine j_iload (pc := 789) C 4 dL_law_789 rfl ?_
  refine j_iconst (pc := 791) (v := 3) C dL_law_791 (by decide) ?_
  refine j_iadd (pc := 792) C dL_law_792 ?_
  refine j_sld (pc := 793) C hX hbl hbA hv3 dL_law_793 ?_
  obtain ⟨rw1, rmw1, w1gnQ, w1gbQ, w1mQ, w1mnQ, w1mth, hw1, hmw1, hIw1⟩ := S_command j _ _ _ _ _ _ _ _ _ _ _ _ _ _ _ _ _ _ _ _ _ _ _ _ _ _ _ _ _ _ _ _ (xs (v4 + 1).toNatClampNeg) (xs (v4 + 2).toNatClampNeg) (xs (v4 + 3).toNatClampNeg) hjL hI
  refine j_callVi (pc := 794) (As := [.int (xs (v4 + 1).toNatClampNeg), .int (xs (v4 + 2).toNatClampNeg), .int (xs (v4 + 3).toNatClampNeg)]) (rest := []) (ws' := (lww a k am km qo ko gM gnC gbC gnL gbL gnF gbF w1gnQ w1gbQ gE gtp glf gtr glh gov mW mC mL mR mQ mE mtb mnC mnL mnR mov mnQ mwr mwl mft mth mpl out)) C K (ci := 2) (q0 := 0) rfl rfl rfl (ctX2_command l D a k _ _ _ _ _ _ _ _ _ _ _ _ _ _ _ _ _ _ _ _ _ hw1) gL_law_X2_command rfl rfl rfl hdyX2_command ⟨Nat.le_of_ble_eq_true rfl, Nat.le_of_ble_eq_true rfl⟩ (List.range 19) rfl (by decide) (jspA rfl rfl) [0, 1, 2, 3, 4, 5] rfl rfl (Nat.le_of_ble_eq_true rfl) dL_law_794 ⟨by show 30 + j ≤ 601024; omega, by show 33300 + 6 * j ≤ 7293033; omega⟩ ?_
  refine j_pop (pc := 797) C dL_law_797 rfl ?_
  refine j_aload_n (pc := 798) C 2 dL_law_798 rfl rfl ?_
  refine j_aload_n (pc := 799) C 0 dL_law_799 rfl rfl ?_
  refine j_iload (pc := 800) C 4 dL_law_800 rfl ?_
  refine j_iconst (pc := 802) (v := 1) C dL_law_802 (by decide) ?_
  refine j_iadd (pc := 803) C dL_law_803 ?_
  refine j_sld (pc := 804) C hX hbl hbA hv1 dL_law_804 ?_
  refine j_aload_n (pc := 805) C 0 dL_law_805 rfl rfl ?_
  refine j_iload (pc := 806) C 4 dL_law_806 rfl ?_
  refine j_iconst (pc := 808) (v := 2) C dL_law_808 (by decide) ?_
  refine j_iadd (pc := 809) C dL_law_809 ?_
  refine j_sld (pc := 810) C hX hbl hbA hv2 dL_law_810 ?_
  refine j_aload_n (pc := 811) C 0 dL_law_811 rfl rfl ?_
  refine j_iload (pc := 812) C 4 dL_law_812 rfl ?_
  refine j_iconst (pc := 814) (v := 3) C dL_law_814 (by decide) ?_
  refine j_iadd (pc := 815) C dL_law_815 ?_
  refine j_sld (pc := 816) C hX hbl hbA hv3 dL_law_816 ?_
  refine j_callVi (pc := 817) (As := [.int (xs (v4 + 1).toNatClampNeg), .int (xs (v4 + 2).toNatClampNeg), .int (xs (v4 + 3).toNatClampNeg)]) (rest := []) (ws' := (lww a k am km qo ko gM gnC gbC gnL gbL gnF gbF w1gnQ w1gbQ gE gtp glf gtr glh gov mW mC mL mR w1mQ mE mtb mnC mnL mnR mov w1mnQ mwr mwl mft w1mth mpl out)) C K (ci := 3) (q0 := 0) rfl rfl rfl (ctX3_command l D am km _ _ _ _ _ _ _ _ _ _ _ _ _ _ _ _ _ _ _ _ _ _ _ _ hmw1) gL_law_X3_command rfl rfl rfl hdyX3_command ⟨Nat.le_of_ble_eq_true rfl, Nat.le_of_ble_eq_true rfl⟩ ((List.range 7).map (fun i => 19 + i)) rfl (by decide) (jspB rfl rfl rfl) [6, 7, 8, 9, 10, 11] rfl rfl (Nat.le_of_ble_eq_true rfl) dL_law_817 ⟨by show 30 + j ≤ 601024; omega, by show 33300 + 6 * j ≤ 7293033; omega⟩ ?_
  refine j_pop (pc := 820) C dL_law_820 rfl ?_
  refine j_goto (pc := 821) (tgt := 974) C dL_law_821 (by decide) ?_
  refine j_iinc (pc := 974) (v := (v4 + 6)) (lv' := [(4, .int (v4 + 6)), (0, .ref b), (1, .ref (a 0)), (2, .ref (am 0)), (3, .ref qo)]) C 4 dL_law_974 rfl rfl (by decide) rfl ?_
  refine j_goto (pc := 977) (tgt := 23) C dL_law_977 (by decide) ?_
  refine j_widen (k := 30 + (j + 1)) (n := 33300 + 6 * (j + 1)) (by omega) (by omega) ?_
  exact j_lv [1, 2, 3, 4, 0] rfl (ih (j + 1) _ _ _ _ _ _ _ _ _ _ _ _ _ _ _ _ _ _ _ _ _ _ _ _ _ _ _ _ _ _ _ _ _ _ (by omega) hv6 hIw1)
set_option maxHeartbeats 4000000 in
set_option maxRecDepth 100000 in
theorem lawc_obey {p : Program} {l : Launch} (hlt : l.stackTraces = false) {e : Env} {s : State} {m : MethodId} {below : List Frame} {meth : Method} {c : Code} {D : va_G} {b L : Nat} {xs : Nat → Int32} (hL : L ≤ 3072) (C : jc p s m #[Value.ref b] c code 7 RL wsL_law (fun q : Nat => s.heap.size ≤ q)) (hr : meth.sig.returnType = ret) (hlk : meth.locks = false) (hX : va_X b L xs s s.heap) (hbl : b < s.heap.size) (hxw : xw s) (hxz : xz (fun q : Nat => s.heap.size ≤ q) s s.heap) {I : Nat → GS → MS → Prop} (S_obey : sm_obey I 512) (a : Nat → Nat) (k : Nat → ClassId) (am : Nat → Nat) (km : Nat → ClassId) (qo : Nat) (ko : ClassId) (K : jk D (ltt k km ko) s) (j : Nat) (hjL : j < 512) (hj6 : 6 * j + 6 ≤ L) (v4 : Int32) (hv : v4 = nI (6 * j)) (gM : Nat → Int32) (gnC : Int32) (gbC : Nat → Int32) (gnL : Int32) (gbL : Nat → Int32) (gnF : Int32) (gbF : Nat → Int32) (gnQ : Int32) (gbQ : Nat → Int32) (gE : Nat → Nat → Int32) (gtp : Int32) (glf : Int32) (gtr : Int32) (glh : Int32) (gov : Int32) (mW : Nat → Int32) (mC : Nat → Int32) (mL : Nat → Int32) (mR : Nat → Int32) (mQ : Nat → Int32) (mE : Nat → Int32) (mtb : Int32) (mnC : Int32) (mnL : Int32) (mnR : Int32) (mov : Int32) (mnQ : Int32) (mwr : Int32) (mwl : Int32) (mft : Int32) (mth : Int32) (mpl : Int32) (out : Nat → Int64) (hI : I j (gM, gnC, gbC, gnL, gbL, gnF, gbF, gnQ, gbQ, gE, gtp, glf, gtr, glh, gov) (mW, mC, mL, mR, mQ, mE, mtb, mnC, mnL, mnR, mov, mnQ, mwr, mwl, mft, mth, mpl))
    (ih : ∀ (j2 : Nat) (gM : Nat → Int32) (gnC : Int32) (gbC : Nat → Int32) (gnL : Int32) (gbL : Nat → Int32) (gnF : Int32) (gbF : Nat → Int32) (gnQ : Int32) (gbQ : Nat → Int32) (gE : Nat → Nat → Int32) (gtp : Int32) (glf : Int32) (gtr : Int32) (glh : Int32) (gov : Int32) (mW : Nat → Int32) (mC : Nat → Int32) (mL : Nat → Int32) (mR : Nat → Int32) (mQ : Nat → Int32) (mE : Nat → Int32) (mtb : Int32) (mnC : Int32) (mnL : Int32) (mnR : Int32) (mov : Int32) (mnQ : Int32) (mwr : Int32) (mwl : Int32) (mft : Int32) (mth : Int32) (mpl : Int32) (out : Nat → Int64) (v4 : Int32), j2 = j + 1 → v4 = nI (6 * j2) → I j2 (gM, gnC, gbC, gnL, gbL, gnF, gbF, gnQ, gbQ, gE, gtp, glf, gtr, glh, gov) (mW, mC, mL, mR, mQ, mE, mtb, mnC, mnL, mnR, mov, mnQ, mwr, mwl, mft, mth, mpl) → jw p l e room_1 s m #[Value.ref b] below meth c 7 D (fun q : Nat => s.heap.size ≤ q) (30 + j2) (33300 + 6 * j2) (lw_Z below #[Value.ref b] s) (lww a k am km qo ko gM gnC gbC gnL gbL gnF gbF gnQ gbQ gE gtp glf gtr glh gov mW mC mL mR mQ mE mtb mnC mnL mnR mov mnQ mwr mwl mft mth mpl out) [(0, .ref b), (1, .ref (a 0)), (2, .ref (am 0)), (3, .ref qo), (4, .int v4)] 23 []) :
    jw p l e room_1 s m #[Value.ref b] below meth c 7 D (fun q : Nat => s.heap.size ≤ q) (30 + j) (33300 + 6 * j) (lw_Z below #[Value.ref b] s) (lww a k am km qo ko gM gnC gbC gnL gbL gnF gbF gnQ gbQ gE gtp glf gtr glh gov mW mC mL mR mQ mE mtb mnC mnL mnR mov mnQ mwr mwl mft mth mpl out) [(0, .ref b), (1, .ref (a 0)), (2, .ref (am 0)), (3, .ref qo), (4, .int v4)] 824 [] := by
  have hbA : ¬ (fun q : Nat => s.heap.size ≤ q) b := Nat.not_le.mpr hbl
  have hv1 : vp_in (v4 + 1) L := by rw [hv]; exact lawin hj6 (by omega) (k := 1) rfl (by omega)
  have hv2 : vp_in (v4 + 2) L := by rw [hv]; exact lawin hj6 (by omega) (k := 2) rfl (by omega)
  have hv3 : vp_in (v4 + 3) L := by rw [hv]; exact lawin hj6 (by omega) (k := 3) rfl (by omega)
  have hv4 : vp_in (v4 + 4) L := by rw [hv]; exact lawin hj6 (by omega) (k := 4) rfl (by omega)
  have hv5 : vp_in (v4 + 5) L := by rw [hv]; exact lawin hj6 (by omega) (k := 5) rfl (by omega)
  have hv6 : v4 + 6 = nI (6 * (j + 1)) := by rw [hv]; exact lawsix j
  refine j_aload_n (pc := 824) C 1 dL_law_824 rfl rfl ?_
  refine j_aload_n (pc := 825) C 0 dL_law_825 rfl rfl ?_
  refine j_iload (pc := 826) C 4 dL_law_826 rfl ?_
  refine j_iconst (pc := 828) (v := 1) C dL_law_828 (by decide) ?_
  refine j_iadd (pc := 829) C dL_law_829 ?_
  refine j_sld (pc := 830) C hX hbl hbA hv1 dL_law_830 ?_
  obtain ⟨rw1, rmw1, w1gM, w1gnC, w1gbC, w1gnL, w1gbL, w1gnQ, w1gbQ, w1mW, w1mC, w1mL, w1mQ, w1mnC, w1mnL, w1mnQ, w1mth, hw1, hmw1, hIw1⟩ := S_obey j _ _ _ _ _ _ _ _ _ _ _ _ _ _ _ _ _ _ _ _ _ _ _ _ _ _ _ _ _ _ _ _ (xs (v4 + 1).toNatClampNeg) hjL hI
  refine j_callVi (pc := 831) (As := [.int (xs (v4 + 1).toNatClampNeg)]) (rest := []) (ws' := (lww a k am km qo ko w1gM w1gnC w1gbC w1gnL w1gbL gnF gbF w1gnQ w1gbQ gE gtp glf gtr glh gov mW mC mL mR mQ mE mtb mnC mnL mnR mov mnQ mwr mwl mft mth mpl out)) C K (ci := 2) (q0 := 0) rfl rfl rfl (ctX2_obey l D a k _ _ _ _ _ _ _ _ _ _ _ _ _ _ _ _ _ _ _ _ _ _ _ _ hw1) gL_law_X2_obey rfl rfl rfl hdyX2_obey ⟨Nat.le_of_ble_eq_true rfl, Nat.le_of_ble_eq_true rfl⟩ (List.range 19) rfl (by decide) (jspA rfl rfl) [0, 1, 2, 3, 4, 5] rfl rfl (Nat.le_of_ble_eq_true rfl) dL_law_831 ⟨by show 30 + j ≤ 601024; omega, by show 33300 + 6 * j ≤ 7293033; omega⟩ ?_
  refine j_pop (pc := 834) C dL_law_834 rfl ?_
  refine j_aload_n (pc := 835) C 2 dL_law_835 rfl rfl ?_
  refine j_aload_n (pc := 836) C 0 dL_law_836 rfl rfl ?_
  refine j_iload (pc := 837) C 4 dL_law_837 rfl ?_
  refine j_iconst (pc := 839) (v := 1) C dL_law_839 (by decide) ?_
  refine j_iadd (pc := 840) C dL_law_840 ?_
  refine j_sld (pc := 841) C hX hbl hbA hv1 dL_law_841 ?_
  refine j_callVi (pc := 842) (As := [.int (xs (v4 + 1).toNatClampNeg)]) (rest := []) (ws' := (lww a k am km qo ko w1gM w1gnC w1gbC w1gnL w1gbL gnF gbF w1gnQ w1gbQ gE gtp glf gtr glh gov w1mW w1mC w1mL mR w1mQ mE mtb w1mnC w1mnL mnR mov w1mnQ mwr mwl mft w1mth mpl out)) C K (ci := 3) (q0 := 0) rfl rfl rfl (ctX3_obey l D am km _ _ _ _ _ _ _ _ _ _ _ _ _ _ _ _ _ _ _ _ _ _ _ _ _ _ _ hmw1) gL_law_X3_obey rfl rfl rfl hdyX3_obey ⟨Nat.le_of_ble_eq_true rfl, Nat.le_of_ble_eq_true rfl⟩ ((List.range 7).map (fun i => 19 + i)) rfl (by decide) (jspB rfl rfl rfl) [6, 7, 8, 9, 10, 11] rfl rfl (Nat.le_of_ble_eq_true rfl) dL_law_842 ⟨by show 30 + j ≤ 601024; omega, by show 33300 + 6 * j ≤ 7293033; omega⟩ ?_
  refine j_pop (pc := 845) C dL_law_845 rfl ?_
  refine j_goto (pc := 846) (tgt := 974) C dL_law_846 (by decide) ?_
  refine j_iinc (pc := 974) (v := (v4 + 6)) (lv' := [(4, .int (v4 + 6)), (0, .ref b), (1, .ref (a 0)), (2, .ref (am 0)), (3, .ref qo)]) C 4 dL_law_974 rfl rfl (by decide) rfl ?_
  refine j_goto (pc := 977) (tgt := 23) C dL_law_977 (by decide) ?_
  refine j_widen (k := 30 + (j + 1)) (n := 33300 + 6 * (j + 1)) (by omega) (by omega) ?_
  exact j_lv [1, 2, 3, 4, 0] rfl (ih (j + 1) _ _ _ _ _ _ _ _ _ _ _ _ _ _ _ _ _ _ _ _ _ _ _ _ _ _ _ _ _ _ _ _ _ _ (by omega) hv6 hIw1)
set_option maxHeartbeats 4000000 in
set_option maxRecDepth 100000 in
theorem lawc_count {p : Program} {l : Launch} (hlt : l.stackTraces = false) {e : Env} {s : State} {m : MethodId} {below : List Frame} {meth : Method} {c : Code} {D : va_G} {b L : Nat} {xs : Nat → Int32} (hL : L ≤ 3072) (C : jc p s m #[Value.ref b] c code 7 RL wsL_law (fun q : Nat => s.heap.size ≤ q)) (hr : meth.sig.returnType = ret) (hlk : meth.locks = false) (hX : va_X b L xs s s.heap) (hbl : b < s.heap.size) (hxw : xw s) (hxz : xz (fun q : Nat => s.heap.size ≤ q) s s.heap) {I : Nat → GS → MS → Prop} (S_count : sm_count I 512) (a : Nat → Nat) (k : Nat → ClassId) (am : Nat → Nat) (km : Nat → ClassId) (qo : Nat) (ko : ClassId) (K : jk D (ltt k km ko) s) (j : Nat) (hjL : j < 512) (hj6 : 6 * j + 6 ≤ L) (v4 : Int32) (hv : v4 = nI (6 * j)) (gM : Nat → Int32) (gnC : Int32) (gbC : Nat → Int32) (gnL : Int32) (gbL : Nat → Int32) (gnF : Int32) (gbF : Nat → Int32) (gnQ : Int32) (gbQ : Nat → Int32) (gE : Nat → Nat → Int32) (gtp : Int32) (glf : Int32) (gtr : Int32) (glh : Int32) (gov : Int32) (mW : Nat → Int32) (mC : Nat → Int32) (mL : Nat → Int32) (mR : Nat → Int32) (mQ : Nat → Int32) (mE : Nat → Int32) (mtb : Int32) (mnC : Int32) (mnL : Int32) (mnR : Int32) (mov : Int32) (mnQ : Int32) (mwr : Int32) (mwl : Int32) (mft : Int32) (mth : Int32) (mpl : Int32) (out : Nat → Int64) (hI : I j (gM, gnC, gbC, gnL, gbL, gnF, gbF, gnQ, gbQ, gE, gtp, glf, gtr, glh, gov) (mW, mC, mL, mR, mQ, mE, mtb, mnC, mnL, mnR, mov, mnQ, mwr, mwl, mft, mth, mpl))
    (ih : ∀ (j2 : Nat) (gM : Nat → Int32) (gnC : Int32) (gbC : Nat → Int32) (gnL : Int32) (gbL : Nat → Int32) (gnF : Int32) (gbF : Nat → Int32) (gnQ : Int32) (gbQ : Nat → Int32) (gE : Nat → Nat → Int32) (gtp : Int32) (glf : Int32) (gtr : Int32) (glh : Int32) (gov : Int32) (mW : Nat → Int32) (mC : Nat → Int32) (mL : Nat → Int32) (mR : Nat → Int32) (mQ : Nat → Int32) (mE : Nat → Int32) (mtb : Int32) (mnC : Int32) (mnL : Int32) (mnR : Int32) (mov : Int32) (mnQ : Int32) (mwr : Int32) (mwl : Int32) (mft : Int32) (mth : Int32) (mpl : Int32) (out : Nat → Int64) (v4 : Int32), j2 = j + 1 → v4 = nI (6 * j2) → I j2 (gM, gnC, gbC, gnL, gbL, gnF, gbF, gnQ, gbQ, gE, gtp, glf, gtr, glh, gov) (mW, mC, mL, mR, mQ, mE, mtb, mnC, mnL, mnR, mov, mnQ, mwr, mwl, mft, mth, mpl) → jw p l e room_1 s m #[Value.ref b] below meth c 7 D (fun q : Nat => s.heap.size ≤ q) (30 + j2) (33300 + 6 * j2) (lw_Z below #[Value.ref b] s) (lww a k am km qo ko gM gnC gbC gnL gbL gnF gbF gnQ gbQ gE gtp glf gtr glh gov mW mC mL mR mQ mE mtb mnC mnL mnR mov mnQ mwr mwl mft mth mpl out) [(0, .ref b), (1, .ref (a 0)), (2, .ref (am 0)), (3, .ref qo), (4, .int v4)] 23 []) :
    jw p l e room_1 s m #[Value.ref b] below meth c 7 D (fun q : Nat => s.heap.size ≤ q) (30 + j) (33300 + 6 * j) (lw_Z below #[Value.ref b] s) (lww a k am km qo ko gM gnC gbC gnL gbL gnF gbF gnQ gbQ gE gtp glf gtr glh gov mW mC mL mR mQ mE mtb mnC mnL mnR mov mnQ mwr mwl mft mth mpl out) [(0, .ref b), (1, .ref (a 0)), (2, .ref (am 0)), (3, .ref qo), (4, .int v4)] 849 [] := by
  have hbA : ¬ (fun q : Nat => s.heap.size ≤ q) b := Nat.not_le.mpr hbl
  have hv1 : vp_in (v4 + 1) L := by rw [hv]; exact lawin hj6 (by omega) (k := 1) rfl (by omega)
  have hv2 : vp_in (v4 + 2) L := by rw [hv]; exact lawin hj6 (by omega) (k := 2) rfl (by omega)
  have hv3 : vp_in (v4 + 3) L := by rw [hv]; exact lawin hj6 (by omega) (k := 3) rfl (by omega)
  have hv4 : vp_in (v4 + 4) L := by rw [hv]; exact lawin hj6 (by omega) (k := 4) rfl (by omega)
  have hv5 : vp_in (v4 + 5) L := by rw [hv]; exact lawin hj6 (by omega) (k := 5) rfl (by omega)
  have hv6 : v4 + 6 = nI (6 * (j + 1)) := by rw [hv]; exact lawsix j
  refine j_aload_n (pc := 849) C 1 dL_law_849 rfl rfl ?_
  refine j_aload_n (pc := 850) C 0 dL_law_850 rfl rfl ?_
  refine j_iload (pc := 851) C 4 dL_law_851 rfl ?_
  refine j_iconst (pc := 853) (v := 1) C dL_law_853 (by decide) ?_
  refine j_iadd (pc := 854) C dL_law_854 ?_
  refine j_sld (pc := 855) C hX hbl hbA hv1 dL_law_855 ?_
  obtain ⟨rw1, rmw1, w1mth, hw1, hmw1, hIw1⟩ := S_count j _ _ _ _ _ _ _ _ _ _ _ _ _ _ _ _ _ _ _ _ _ _ _ _ _ _ _ _ _ _ _ _ (xs (v4 + 1).toNatClampNeg) hjL hI
  refine j_callVi (pc := 856) (As := [.int (xs (v4 + 1).toNatClampNeg)]) (rest := []) (ws' := (lww a k am km qo ko gM gnC gbC gnL gbL gnF gbF gnQ gbQ gE gtp glf gtr glh gov mW mC mL mR mQ mE mtb mnC mnL mnR mov mnQ mwr mwl mft mth mpl out)) C K (ci := 2) (q0 := 0) rfl rfl rfl (ctX2_count l D a k _ _ _ _ _ _ _ _ _ _ _ _ _ _ _ _ _ hw1) gL_law_X2_count rfl rfl rfl hdyX2_count ⟨Nat.le_of_ble_eq_true rfl, Nat.le_of_ble_eq_true rfl⟩ (List.range 19) rfl (by decide) (jspA rfl rfl) [0, 1, 2, 3, 4, 5] rfl rfl (Nat.le_of_ble_eq_true rfl) dL_law_856 ⟨by show 30 + j ≤ 601024; omega, by show 33300 + 6 * j ≤ 7293033; omega⟩ ?_
  refine j_pop (pc := 859) C dL_law_859 rfl ?_
  refine j_aload_n (pc := 860) C 2 dL_law_860 rfl rfl ?_
  refine j_aload_n (pc := 861) C 0 dL_law_861 rfl rfl ?_
  refine j_iload (pc := 862) C 4 dL_law_862 rfl ?_
  refine j_iconst (pc := 864) (v := 1) C dL_law_864 (by decide) ?_
  refine j_iadd (pc := 865) C dL_law_865 ?_
  refine j_sld (pc := 866) C hX hbl hbA hv1 dL_law_866 ?_
  refine j_callVi (pc := 867) (As := [.int (xs (v4 + 1).toNatClampNeg)]) (rest := []) (ws' := (lww a k am km qo ko gM gnC gbC gnL gbL gnF gbF gnQ gbQ gE gtp glf gtr glh gov mW mC mL mR mQ mE mtb mnC mnL mnR mov mnQ mwr mwl mft w1mth mpl out)) C K (ci := 3) (q0 := 0) rfl rfl rfl (ctX3_count l D am km _ _ _ _ _ _ _ _ _ _ _ _ _ _ _ _ _ _ _ _ hmw1) gL_law_X3_count rfl rfl rfl hdyX3_count ⟨Nat.le_of_ble_eq_true rfl, Nat.le_of_ble_eq_true rfl⟩ ((List.range 7).map (fun i => 19 + i)) rfl (by decide) (jspB rfl rfl rfl) [6, 7, 8, 9, 10, 11] rfl rfl (Nat.le_of_ble_eq_true rfl) dL_law_867 ⟨by show 30 + j ≤ 601024; omega, by show 33300 + 6 * j ≤ 7293033; omega⟩ ?_
  refine j_pop (pc := 870) C dL_law_870 rfl ?_
  refine j_goto (pc := 871) (tgt := 974) C dL_law_871 (by decide) ?_
  refine j_iinc (pc := 974) (v := (v4 + 6)) (lv' := [(4, .int (v4 + 6)), (0, .ref b), (1, .ref (a 0)), (2, .ref (am 0)), (3, .ref qo)]) C 4 dL_law_974 rfl rfl (by decide) rfl ?_
  refine j_goto (pc := 977) (tgt := 23) C dL_law_977 (by decide) ?_
  refine j_widen (k := 30 + (j + 1)) (n := 33300 + 6 * (j + 1)) (by omega) (by omega) ?_
  exact j_lv [1, 2, 3, 4, 0] rfl (ih (j + 1) _ _ _ _ _ _ _ _ _ _ _ _ _ _ _ _ _ _ _ _ _ _ _ _ _ _ _ _ _ _ _ _ _ _ (by omega) hv6 hIw1)
set_option maxHeartbeats 4000000 in
set_option maxRecDepth 100000 in
theorem lawc_record {p : Program} {l : Launch} (hlt : l.stackTraces = false) {e : Env} {s : State} {m : MethodId} {below : List Frame} {meth : Method} {c : Code} {D : va_G} {b L : Nat} {xs : Nat → Int32} (hL : L ≤ 3072) (C : jc p s m #[Value.ref b] c code 7 RL wsL_law (fun q : Nat => s.heap.size ≤ q)) (hr : meth.sig.returnType = ret) (hlk : meth.locks = false) (hX : va_X b L xs s s.heap) (hbl : b < s.heap.size) (hxw : xw s) (hxz : xz (fun q : Nat => s.heap.size ≤ q) s s.heap) {I : Nat → GS → MS → Prop} (S_record : sm_record I 512) (a : Nat → Nat) (k : Nat → ClassId) (am : Nat → Nat) (km : Nat → ClassId) (qo : Nat) (ko : ClassId) (K : jk D (ltt k km ko) s) (j : Nat) (hjL : j < 512) (hj6 : 6 * j + 6 ≤ L) (v4 : Int32) (hv : v4 = nI (6 * j)) (gM : Nat → Int32) (gnC : Int32) (gbC : Nat → Int32) (gnL : Int32) (gbL : Nat → Int32) (gnF : Int32) (gbF : Nat → Int32) (gnQ : Int32) (gbQ : Nat → Int32) (gE : Nat → Nat → Int32) (gtp : Int32) (glf : Int32) (gtr : Int32) (glh : Int32) (gov : Int32) (mW : Nat → Int32) (mC : Nat → Int32) (mL : Nat → Int32) (mR : Nat → Int32) (mQ : Nat → Int32) (mE : Nat → Int32) (mtb : Int32) (mnC : Int32) (mnL : Int32) (mnR : Int32) (mov : Int32) (mnQ : Int32) (mwr : Int32) (mwl : Int32) (mft : Int32) (mth : Int32) (mpl : Int32) (out : Nat → Int64) (hI : I j (gM, gnC, gbC, gnL, gbL, gnF, gbF, gnQ, gbQ, gE, gtp, glf, gtr, glh, gov) (mW, mC, mL, mR, mQ, mE, mtb, mnC, mnL, mnR, mov, mnQ, mwr, mwl, mft, mth, mpl))
    (ih : ∀ (j2 : Nat) (gM : Nat → Int32) (gnC : Int32) (gbC : Nat → Int32) (gnL : Int32) (gbL : Nat → Int32) (gnF : Int32) (gbF : Nat → Int32) (gnQ : Int32) (gbQ : Nat → Int32) (gE : Nat → Nat → Int32) (gtp : Int32) (glf : Int32) (gtr : Int32) (glh : Int32) (gov : Int32) (mW : Nat → Int32) (mC : Nat → Int32) (mL : Nat → Int32) (mR : Nat → Int32) (mQ : Nat → Int32) (mE : Nat → Int32) (mtb : Int32) (mnC : Int32) (mnL : Int32) (mnR : Int32) (mov : Int32) (mnQ : Int32) (mwr : Int32) (mwl : Int32) (mft : Int32) (mth : Int32) (mpl : Int32) (out : Nat → Int64) (v4 : Int32), j2 = j + 1 → v4 = nI (6 * j2) → I j2 (gM, gnC, gbC, gnL, gbL, gnF, gbF, gnQ, gbQ, gE, gtp, glf, gtr, glh, gov) (mW, mC, mL, mR, mQ, mE, mtb, mnC, mnL, mnR, mov, mnQ, mwr, mwl, mft, mth, mpl) → jw p l e room_1 s m #[Value.ref b] below meth c 7 D (fun q : Nat => s.heap.size ≤ q) (30 + j2) (33300 + 6 * j2) (lw_Z below #[Value.ref b] s) (lww a k am km qo ko gM gnC gbC gnL gbL gnF gbF gnQ gbQ gE gtp glf gtr glh gov mW mC mL mR mQ mE mtb mnC mnL mnR mov mnQ mwr mwl mft mth mpl out) [(0, .ref b), (1, .ref (a 0)), (2, .ref (am 0)), (3, .ref qo), (4, .int v4)] 23 []) :
    jw p l e room_1 s m #[Value.ref b] below meth c 7 D (fun q : Nat => s.heap.size ≤ q) (30 + j) (33300 + 6 * j) (lw_Z below #[Value.ref b] s) (lww a k am km qo ko gM gnC gbC gnL gbL gnF gbF gnQ gbQ gE gtp glf gtr glh gov mW mC mL mR mQ mE mtb mnC mnL mnR mov mnQ mwr mwl mft mth mpl out) [(0, .ref b), (1, .ref (a 0)), (2, .ref (am 0)), (3, .ref qo), (4, .int v4)] 874 [] := by
  have hbA : ¬ (fun q : Nat => s.heap.size ≤ q) b := Nat.not_le.mpr hbl
  have hv1 : vp_in (v4 + 1) L := by rw [hv]; exact lawin hj6 (by omega) (k := 1) rfl (by omega)
  have hv2 : vp_in (v4 + 2) L := by rw [hv]; exact lawin hj6 (by omega) (k := 2) rfl (by omega)
  have hv3 : vp_in (v4 + 3) L := by rw [hv]; exact lawin hj6 (by omega) (k := 3) rfl (by omega)
  have hv4 : vp_in (v4 + 4) L := by rw [hv]; exact lawin hj6 (by omega) (k := 4) rfl (by omega)
  have hv5 : vp_in (v4 + 5) L := by rw [hv]; exact lawin hj6 (by omega) (k := 5) rfl (by omega)
  have hv6 : v4 + 6 = nI (6 * (j + 1)) := by rw [hv]; exact lawsix j
  refine j_aload_n (pc := 874) C 1 dL_law_874 rfl rfl ?_
  refine j_aload_n (pc := 875) C 0 dL_law_875 rfl rfl ?_
  refine j_iload (pc := 876) C 4 dL_law_876 rfl ?_
  refine j_iconst (pc := 878) (v := 1) C dL_law_878 (by decide) ?_
  refine j_iadd (pc := 879) C dL_law_879 ?_
  refine j_sld (pc := 880) C hX hbl hbA hv1 dL_law_880 ?_
  refine j_aload_n (pc := 881) C 0 dL_law_881 rfl rfl ?_
  refine j_iload (pc := 882) C 4 dL_law_882 rfl ?_
  refine j_iconst (pc := 884) (v := 2) C dL_law_884 (by decide) ?_
  refine j_iadd (pc := 885) C dL_law_885 ?_
  refine j_sld (pc := 886) C hX hbl hbA hv2 dL_law_886 ?_
  obtain ⟨rw1, rmw1, w1mth, hw1, hmw1, hIw1⟩ := S_record j _ _ _ _ _ _ _ _ _ _ _ _ _ _ _ _ _ _ _ _ _ _ _ _ _ _ _ _ _ _ _ _ (xs (v4 + 1).toNatClampNeg) (xs (v4 + 2).toNatClampNeg) hjL hI
  refine j_callVi (pc := 887) (As := [.int (xs (v4 + 1).toNatClampNeg), .int (xs (v4 + 2).toNatClampNeg)]) (rest := []) (ws' := (lww a k am km qo ko gM gnC gbC gnL gbL gnF gbF gnQ gbQ gE gtp glf gtr glh gov mW mC mL mR mQ mE mtb mnC mnL mnR mov mnQ mwr mwl mft mth mpl out)) C K (ci := 2) (q0 := 0) rfl rfl rfl (ctX2_record l D a k _ _ _ _ _ _ _ _ _ _ _ _ _ _ _ _ _ _ hw1) gL_law_X2_record rfl rfl rfl hdyX2_record ⟨Nat.le_of_ble_eq_true rfl, Nat.le_of_ble_eq_true rfl⟩ (List.range 19) rfl (by decide) (jspA rfl rfl) [0, 1, 2, 3, 4, 5] rfl rfl (Nat.le_of_ble_eq_true rfl) dL_law_887 ⟨by show 30 + j ≤ 601024; omega, by show 33300 + 6 * j ≤ 7293033; omega⟩ ?_
  refine j_pop (pc := 890) C dL_law_890 rfl ?_
  refine j_aload_n (pc := 891) C 2 dL_law_891 rfl rfl ?_
  refine j_aload_n (pc := 892) C 0 dL_law_892 rfl rfl ?_
  refine j_iload (pc := 893) C 4 dL_law_893 rfl ?_
  refine j_iconst (pc := 895) (v := 1) C dL_law_895 (by decide) ?_
  refine j_iadd (pc := 896) C dL_law_896 ?_
  refine j_sld (pc := 897) C hX hbl hbA hv1 dL_law_897 ?_
  refine j_aload_n (pc := 898) C 0 dL_law_898 rfl rfl ?_
  refine j_iload (pc := 899) C 4 dL_law_899 rfl ?_
  refine j_iconst (pc := 901) (v := 2) C dL_law_901 (by decide) ?_
  refine j_iadd (pc := 902) C dL_law_902 ?_
  refine j_sld (pc := 903) C hX hbl hbA hv2 dL_law_903 ?_
  refine j_callVi (pc := 904) (As := [.int (xs (v4 + 1).toNatClampNeg), .int (xs (v4 + 2).toNatClampNeg)]) (rest := []) (ws' := (lww a k am km qo ko gM gnC gbC gnL gbL gnF gbF gnQ gbQ gE gtp glf gtr glh gov mW mC mL mR mQ mE mtb mnC mnL mnR mov mnQ mwr mwl mft w1mth mpl out)) C K (ci := 3) (q0 := 0) rfl rfl rfl (ctX3_record l D am km _ _ _ _ _ _ _ _ _ _ _ _ _ _ _ _ _ _ _ _ _ hmw1) gL_law_X3_record rfl rfl rfl hdyX3_record ⟨Nat.le_of_ble_eq_true rfl, Nat.le_of_ble_eq_true rfl⟩ ((List.range 7).map (fun i => 19 + i)) rfl (by decide) (jspB rfl rfl rfl) [6, 7, 8, 9, 10, 11] rfl rfl (Nat.le_of_ble_eq_true rfl) dL_law_904 ⟨by show 30 + j ≤ 601024; omega, by show 33300 + 6 * j ≤ 7293033; omega⟩ ?_
  refine j_pop (pc := 907) C dL_law_907 rfl ?_
  refine j_goto (pc := 908) (tgt := 974) C dL_law_908 (by decide) ?_
  refine j_iinc (pc := 974) (v := (v4 + 6)) (lv' := [(4, .int (v4 + 6)), (0, .ref b), (1, .ref (a 0)), (2, .ref (am 0)), (3, .ref qo)]) C 4 dL_law_974 rfl rfl (by decide) rfl ?_
  refine j_goto (pc := 977) (tgt := 23) C dL_law_977 (by decide) ?_
  refine j_widen (k := 30 + (j + 1)) (n := 33300 + 6 * (j + 1)) (by omega) (by omega) ?_
  exact j_lv [1, 2, 3, 4, 0] rfl (ih (j + 1) _ _ _ _ _ _ _ _ _ _ _ _ _ _ _ _ _ _ _ _ _ _ _ _ _ _ _ _ _ _ _ _ _ _ (by omega) hv6 hIw1)
set_option maxHeartbeats 4000000 in
set_option maxRecDepth 100000 in
theorem lawc_drop {p : Program} {l : Launch} (hlt : l.stackTraces = false) {e : Env} {s : State} {m : MethodId} {below : List Frame} {meth : Method} {c : Code} {D : va_G} {b L : Nat} {xs : Nat → Int32} (hL : L ≤ 3072) (C : jc p s m #[Value.ref b] c code 7 RL wsL_law (fun q : Nat => s.heap.size ≤ q)) (hr : meth.sig.returnType = ret) (hlk : meth.locks = false) (hX : va_X b L xs s s.heap) (hbl : b < s.heap.size) (hxw : xw s) (hxz : xz (fun q : Nat => s.heap.size ≤ q) s s.heap) {I : Nat → GS → MS → Prop} (S_drop : sm_drop I 512) (a : Nat → Nat) (k : Nat → ClassId) (am : Nat → Nat) (km : Nat → ClassId) (qo : Nat) (ko : ClassId) (K : jk D (ltt k km ko) s) (j : Nat) (hjL : j < 512) (hj6 : 6 * j + 6 ≤ L) (v4 : Int32) (hv : v4 = nI (6 * j)) (gM : Nat → Int32) (gnC : Int32) (gbC : Nat → Int32) (gnL : Int32) (gbL : Nat → Int32) (gnF : Int32) (gbF : Nat → Int32) (gnQ : Int32) (gbQ : Nat → Int32) (gE : Nat → Nat → Int32) (gtp : Int32) (glf : Int32) (gtr : Int32) (glh : Int32) (gov : Int32) (mW : Nat → Int32) (mC : Nat → Int32) (mL : Nat → Int32) (mR : Nat → Int32) (mQ : Nat → Int32) (mE : Nat → Int32) (mtb : Int32) (mnC : Int32) (mnL : Int32) (mnR : Int32) (mov : Int32) (mnQ : Int32) (mwr : Int32) (mwl : Int32) (mft : Int32) (mth : Int32) (mpl : Int32) (out : Nat → Int64) (hI : I j (gM, gnC, gbC, gnL, gbL, gnF, gbF, gnQ, gbQ, gE, gtp, glf, gtr, glh, gov) (mW, mC, mL, mR, mQ, mE, mtb, mnC, mnL, mnR, mov, mnQ, mwr, mwl, mft, mth, mpl))
    (ih : ∀ (j2 : Nat) (gM : Nat → Int32) (gnC : Int32) (gbC : Nat → Int32) (gnL : Int32) (gbL : Nat → Int32) (gnF : Int32) (gbF : Nat → Int32) (gnQ : Int32) (gbQ : Nat → Int32) (gE : Nat → Nat → Int32) (gtp : Int32) (glf : Int32) (gtr : Int32) (glh : Int32) (gov : Int32) (mW : Nat → Int32) (mC : Nat → Int32) (mL : Nat → Int32) (mR : Nat → Int32) (mQ : Nat → Int32) (mE : Nat → Int32) (mtb : Int32) (mnC : Int32) (mnL : Int32) (mnR : Int32) (mov : Int32) (mnQ : Int32) (mwr : Int32) (mwl : Int32) (mft : Int32) (mth : Int32) (mpl : Int32) (out : Nat → Int64) (v4 : Int32), j2 = j + 1 → v4 = nI (6 * j2) → I j2 (gM, gnC, gbC, gnL, gbL, gnF, gbF, gnQ, gbQ, gE, gtp, glf, gtr, glh, gov) (mW, mC, mL, mR, mQ, mE, mtb, mnC, mnL, mnR, mov, mnQ, mwr, mwl, mft, mth, mpl) → jw p l e room_1 s m #[Value.ref b] below meth c 7 D (fun q : Nat => s.heap.size ≤ q) (30 + j2) (33300 + 6 * j2) (lw_Z below #[Value.ref b] s) (lww a k am km qo ko gM gnC gbC gnL gbL gnF gbF gnQ gbQ gE gtp glf gtr glh gov mW mC mL mR mQ mE mtb mnC mnL mnR mov mnQ mwr mwl mft mth mpl out) [(0, .ref b), (1, .ref (a 0)), (2, .ref (am 0)), (3, .ref qo), (4, .int v4)] 23 []) :
    jw p l e room_1 s m #[Value.ref b] below meth c 7 D (fun q : Nat => s.heap.size ≤ q) (30 + j) (33300 + 6 * j) (lw_Z below #[Value.ref b] s) (lww a k am km qo ko gM gnC gbC gnL gbL gnF gbF gnQ gbQ gE gtp glf gtr glh gov mW mC mL mR mQ mE mtb mnC mnL mnR mov mnQ mwr mwl mft mth mpl out) [(0, .ref b), (1, .ref (a 0)), (2, .ref (am 0)), (3, .ref qo), (4, .int v4)] 911 [] := by
  have hbA : ¬ (fun q : Nat => s.heap.size ≤ q) b := Nat.not_le.mpr hbl
  have hv1 : vp_in (v4 + 1) L := by rw [hv]; exact lawin hj6 (by omega) (k := 1) rfl (by omega)
  have hv2 : vp_in (v4 + 2) L := by rw [hv]; exact lawin hj6 (by omega) (k := 2) rfl (by omega)
  have hv3 : vp_in (v4 + 3) L := by rw [hv]; exact lawin hj6 (by omega) (k := 3) rfl (by omega)
  have hv4 : vp_in (v4 + 4) L := by rw [hv]; exact lawin hj6 (by omega) (k := 4) rfl (by omega)
  have hv5 : vp_in (v4 + 5) L := by rw [hv]; exact lawin hj6 (by omega) (k := 5) rfl (by omega)
  have hv6 : v4 + 6 = nI (6 * (j + 1)) := by rw [hv]; exact lawsix j
  refine j_aload_n (pc := 911) C 1 dL_law_911 rfl rfl ?_
  obtain ⟨rw1, rmw1, w1gnF, w1gbF, w1mR, w1mnR, w1mth, hw1, hmw1, hIw1⟩ := S_drop j _ _ _ _ _ _ _ _ _ _ _ _ _ _ _ _ _ _ _ _ _ _ _ _ _ _ _ _ _ _ _ _ hjL hI
  refine j_callVi (pc := 912) (As := []) (rest := []) (ws' := (lww a k am km qo ko gM gnC gbC gnL gbL w1gnF w1gbF gnQ gbQ gE gtp glf gtr glh gov mW mC mL mR mQ mE mtb mnC mnL mnR mov mnQ mwr mwl mft mth mpl out)) C K (ci := 2) (q0 := 0) rfl rfl rfl (ctX2_drop l D a k _ _ _ _ _ _ _ _ _ _ _ _ _ _ _ _ _ _ hw1) gL_law_X2_drop rfl rfl rfl hdyX2_drop ⟨Nat.le_of_ble_eq_true rfl, Nat.le_of_ble_eq_true rfl⟩ (List.range 19) rfl (by decide) (jspA rfl rfl) [0, 1, 2, 3, 4, 5] rfl rfl (Nat.le_of_ble_eq_true rfl) dL_law_912 ⟨by show 30 + j ≤ 601024; omega, by show 33300 + 6 * j ≤ 7293033; omega⟩ ?_
  refine j_pop (pc := 915) C dL_law_915 rfl ?_
  refine j_aload_n (pc := 916) C 2 dL_law_916 rfl rfl ?_
  refine j_callVi (pc := 917) (As := []) (rest := []) (ws' := (lww a k am km qo ko gM gnC gbC gnL gbL w1gnF w1gbF gnQ gbQ gE gtp glf gtr glh gov mW mC mL w1mR mQ mE mtb mnC mnL w1mnR mov mnQ mwr mwl mft w1mth mpl out)) C K (ci := 3) (q0 := 0) rfl rfl rfl (ctX3_drop l D am km _ _ _ _ _ _ _ _ _ _ _ _ _ _ _ _ _ _ _ _ _ hmw1) gL_law_X3_drop rfl rfl rfl hdyX3_drop ⟨Nat.le_of_ble_eq_true rfl, Nat.le_of_ble_eq_true rfl⟩ ((List.range 7).map (fun i => 19 + i)) rfl (by decide) (jspB rfl rfl rfl) [6, 7, 8, 9, 10, 11] rfl rfl (Nat.le_of_ble_eq_true rfl) dL_law_917 ⟨by show 30 + j ≤ 601024; omega, by show 33300 + 6 * j ≤ 7293033; omega⟩ ?_
  refine j_pop (pc := 920) C dL_law_920 rfl ?_
  refine j_goto (pc := 921) (tgt := 974) C dL_law_921 (by decide) ?_
  refine j_iinc (pc := 974) (v := (v4 + 6)) (lv' := [(4, .int (v4 + 6)), (0, .ref b), (1, .ref (a 0)), (2, .ref (am 0)), (3, .ref qo)]) C 4 dL_law_974 rfl rfl (by decide) rfl ?_
  refine j_goto (pc := 977) (tgt := 23) C dL_law_977 (by decide) ?_
  refine j_widen (k := 30 + (j + 1)) (n := 33300 + 6 * (j + 1)) (by omega) (by omega) ?_
  exact j_lv [1, 2, 3, 4, 0] rfl (ih (j + 1) _ _ _ _ _ _ _ _ _ _ _ _ _ _ _ _ _ _ _ _ _ _ _ _ _ _ _ _ _ _ _ _ _ _ (by omega) hv6 hIw1)
set_option maxHeartbeats 4000000 in
set_option maxRecDepth 100000 in
theorem lawc_clear {p : Program} {l : Launch} (hlt : l.stackTraces = false) {e : Env} {s : State} {m : MethodId} {below : List Frame} {meth : Method} {c : Code} {D : va_G} {b L : Nat} {xs : Nat → Int32} (hL : L ≤ 3072) (C : jc p s m #[Value.ref b] c code 7 RL wsL_law (fun q : Nat => s.heap.size ≤ q)) (hr : meth.sig.returnType = ret) (hlk : meth.locks = false) (hX : va_X b L xs s s.heap) (hbl : b < s.heap.size) (hxw : xw s) (hxz : xz (fun q : Nat => s.heap.size ≤ q) s s.heap) {I : Nat → GS → MS → Prop} (S_clear : sm_clear I 512) (a : Nat → Nat) (k : Nat → ClassId) (am : Nat → Nat) (km : Nat → ClassId) (qo : Nat) (ko : ClassId) (K : jk D (ltt k km ko) s) (j : Nat) (hjL : j < 512) (hj6 : 6 * j + 6 ≤ L) (v4 : Int32) (hv : v4 = nI (6 * j)) (gM : Nat → Int32) (gnC : Int32) (gbC : Nat → Int32) (gnL : Int32) (gbL : Nat → Int32) (gnF : Int32) (gbF : Nat → Int32) (gnQ : Int32) (gbQ : Nat → Int32) (gE : Nat → Nat → Int32) (gtp : Int32) (glf : Int32) (gtr : Int32) (glh : Int32) (gov : Int32) (mW : Nat → Int32) (mC : Nat → Int32) (mL : Nat → Int32) (mR : Nat → Int32) (mQ : Nat → Int32) (mE : Nat → Int32) (mtb : Int32) (mnC : Int32) (mnL : Int32) (mnR : Int32) (mov : Int32) (mnQ : Int32) (mwr : Int32) (mwl : Int32) (mft : Int32) (mth : Int32) (mpl : Int32) (out : Nat → Int64) (hI : I j (gM, gnC, gbC, gnL, gbL, gnF, gbF, gnQ, gbQ, gE, gtp, glf, gtr, glh, gov) (mW, mC, mL, mR, mQ, mE, mtb, mnC, mnL, mnR, mov, mnQ, mwr, mwl, mft, mth, mpl))
    (ih : ∀ (j2 : Nat) (gM : Nat → Int32) (gnC : Int32) (gbC : Nat → Int32) (gnL : Int32) (gbL : Nat → Int32) (gnF : Int32) (gbF : Nat → Int32) (gnQ : Int32) (gbQ : Nat → Int32) (gE : Nat → Nat → Int32) (gtp : Int32) (glf : Int32) (gtr : Int32) (glh : Int32) (gov : Int32) (mW : Nat → Int32) (mC : Nat → Int32) (mL : Nat → Int32) (mR : Nat → Int32) (mQ : Nat → Int32) (mE : Nat → Int32) (mtb : Int32) (mnC : Int32) (mnL : Int32) (mnR : Int32) (mov : Int32) (mnQ : Int32) (mwr : Int32) (mwl : Int32) (mft : Int32) (mth : Int32) (mpl : Int32) (out : Nat → Int64) (v4 : Int32), j2 = j + 1 → v4 = nI (6 * j2) → I j2 (gM, gnC, gbC, gnL, gbL, gnF, gbF, gnQ, gbQ, gE, gtp, glf, gtr, glh, gov) (mW, mC, mL, mR, mQ, mE, mtb, mnC, mnL, mnR, mov, mnQ, mwr, mwl, mft, mth, mpl) → jw p l e room_1 s m #[Value.ref b] below meth c 7 D (fun q : Nat => s.heap.size ≤ q) (30 + j2) (33300 + 6 * j2) (lw_Z below #[Value.ref b] s) (lww a k am km qo ko gM gnC gbC gnL gbL gnF gbF gnQ gbQ gE gtp glf gtr glh gov mW mC mL mR mQ mE mtb mnC mnL mnR mov mnQ mwr mwl mft mth mpl out) [(0, .ref b), (1, .ref (a 0)), (2, .ref (am 0)), (3, .ref qo), (4, .int v4)] 23 []) :
    jw p l e room_1 s m #[Value.ref b] below meth c 7 D (fun q : Nat => s.heap.size ≤ q) (30 + j) (33300 + 6 * j) (lw_Z below #[Value.ref b] s) (lww a k am km qo ko gM gnC gbC gnL gbL gnF gbF gnQ gbQ gE gtp glf gtr glh gov mW mC mL mR mQ mE mtb mnC mnL mnR mov mnQ mwr mwl mft mth mpl out) [(0, .ref b), (1, .ref (a 0)), (2, .ref (am 0)), (3, .ref qo), (4, .int v4)] 924 [] := by
  have hbA : ¬ (fun q : Nat => s.heap.size ≤ q) b := Nat.not_le.mpr hbl
  have hv1 : vp_in (v4 + 1) L := by rw [hv]; exact lawin hj6 (by omega) (k := 1) rfl (by omega)
  have hv2 : vp_in (v4 + 2) L := by rw [hv]; exact lawin hj6 (by omega) (k := 2) rfl (by omega)
  have hv3 : vp_in (v4 + 3) L := by rw [hv]; exact lawin hj6 (by omega) (k := 3) rfl (by omega)
  have hv4 : vp_in (v4 + 4) L := by rw [hv]; exact lawin hj6 (by omega) (k := 4) rfl (by omega)
  have hv5 : vp_in (v4 + 5) L := by rw [hv]; exact lawin hj6 (by omega) (k := 5) rfl (by omega)
  have hv6 : v4 + 6 = nI (6 * (j + 1)) := by rw [hv]; exact lawsix j
  refine j_aload_n (pc := 924) C 1 dL_law_924 rfl rfl ?_
  obtain ⟨rw1, rmw1, w1gnF, w1gov, w1mnR, w1mov, w1mth, hw1, hmw1, hIw1⟩ := S_clear j _ _ _ _ _ _ _ _ _ _ _ _ _ _ _ _ _ _ _ _ _ _ _ _ _ _ _ _ _ _ _ _ hjL hI
  refine j_callVi (pc := 925) (As := []) (rest := []) (ws' := (lww a k am km qo ko gM gnC gbC gnL gbL w1gnF gbF gnQ gbQ gE gtp glf gtr glh w1gov mW mC mL mR mQ mE mtb mnC mnL mnR mov mnQ mwr mwl mft mth mpl out)) C K (ci := 2) (q0 := 0) rfl rfl rfl (ctX2_clear l D a k _ _ _ _ _ _ _ _ _ _ _ _ _ _ _ _ _ _ hw1) gL_law_X2_clear rfl rfl rfl hdyX2_clear ⟨Nat.le_of_ble_eq_true rfl, Nat.le_of_ble_eq_true rfl⟩ (List.range 19) rfl (by decide) (jspA rfl rfl) [0, 1, 2, 3, 4, 5] rfl rfl (Nat.le_of_ble_eq_true rfl) dL_law_925 ⟨by show 30 + j ≤ 601024; omega, by show 33300 + 6 * j ≤ 7293033; omega⟩ ?_
  refine j_pop (pc := 928) C dL_law_928 rfl ?_
  refine j_aload_n (pc := 929) C 2 dL_law_929 rfl rfl ?_
  refine j_callVi (pc := 930) (As := []) (rest := []) (ws' := (lww a k am km qo ko gM gnC gbC gnL gbL w1gnF gbF gnQ gbQ gE gtp glf gtr glh w1gov mW mC mL mR mQ mE mtb mnC mnL w1mnR w1mov mnQ mwr mwl mft w1mth mpl out)) C K (ci := 3) (q0 := 0) rfl rfl rfl (ctX3_clear l D am km _ _ _ _ _ _ _ _ _ _ _ _ _ _ _ _ _ _ _ _ _ hmw1) gL_law_X3_clear rfl rfl rfl hdyX3_clear ⟨Nat.le_of_ble_eq_true rfl, Nat.le_of_ble_eq_true rfl⟩ ((List.range 7).map (fun i => 19 + i)) rfl (by decide) (jspB rfl rfl rfl) [6, 7, 8, 9, 10, 11] rfl rfl (Nat.le_of_ble_eq_true rfl) dL_law_930 ⟨by show 30 + j ≤ 601024; omega, by show 33300 + 6 * j ≤ 7293033; omega⟩ ?_
  refine j_pop (pc := 933) C dL_law_933 rfl ?_
  refine j_goto (pc := 934) (tgt := 974) C dL_law_934 (by decide) ?_
  refine j_iinc (pc := 974) (v := (v4 + 6)) (lv' := [(4, .int (v4 + 6)), (0, .ref b), (1, .ref (a 0)), (2, .ref (am 0)), (3, .ref qo)]) C 4 dL_law_974 rfl rfl (by decide) rfl ?_
  refine j_goto (pc := 977) (tgt := 23) C dL_law_977 (by decide) ?_
  refine j_widen (k := 30 + (j + 1)) (n := 33300 + 6 * (j + 1)) (by omega) (by omega) ?_
  exact j_lv [1, 2, 3, 4, 0] rfl (ih (j + 1) _ _ _ _ _ _ _ _ _ _ _ _ _ _ _ _ _ _ _ _ _ _ _ _ _ _ _ _ _ _ _ _ _ _ (by omega) hv6 hIw1)
set_option maxHeartbeats 4000000 in
set_option maxRecDepth 100000 in
theorem lawc_leaf {p : Program} {l : Launch} (hlt : l.stackTraces = false) {e : Env} {s : State} {m : MethodId} {below : List Frame} {meth : Method} {c : Code} {D : va_G} {b L : Nat} {xs : Nat → Int32} (hL : L ≤ 3072) (C : jc p s m #[Value.ref b] c code 7 RL wsL_law (fun q : Nat => s.heap.size ≤ q)) (hr : meth.sig.returnType = ret) (hlk : meth.locks = false) (hX : va_X b L xs s s.heap) (hbl : b < s.heap.size) (hxw : xw s) (hxz : xz (fun q : Nat => s.heap.size ≤ q) s s.heap) {I : Nat → GS → MS → Prop} (S_leaf : sm_leaf I 512) (a : Nat → Nat) (k : Nat → ClassId) (am : Nat → Nat) (km : Nat → ClassId) (qo : Nat) (ko : ClassId) (K : jk D (ltt k km ko) s) (j : Nat) (hjL : j < 512) (hj6 : 6 * j + 6 ≤ L) (v4 : Int32) (hv : v4 = nI (6 * j)) (gM : Nat → Int32) (gnC : Int32) (gbC : Nat → Int32) (gnL : Int32) (gbL : Nat → Int32) (gnF : Int32) (gbF : Nat → Int32) (gnQ : Int32) (gbQ : Nat → Int32) (gE : Nat → Nat → Int32) (gtp : Int32) (glf : Int32) (gtr : Int32) (glh : Int32) (gov : Int32) (mW : Nat → Int32) (mC : Nat → Int32) (mL : Nat → Int32) (mR : Nat → Int32) (mQ : Nat → Int32) (mE : Nat → Int32) (mtb : Int32) (mnC : Int32) (mnL : Int32) (mnR : Int32) (mov : Int32) (mnQ : Int32) (mwr : Int32) (mwl : Int32) (mft : Int32) (mth : Int32) (mpl : Int32) (out : Nat → Int64) (hI : I j (gM, gnC, gbC, gnL, gbL, gnF, gbF, gnQ, gbQ, gE, gtp, glf, gtr, glh, gov) (mW, mC, mL, mR, mQ, mE, mtb, mnC, mnL, mnR, mov, mnQ, mwr, mwl, mft, mth, mpl))
    (ih : ∀ (j2 : Nat) (gM : Nat → Int32) (gnC : Int32) (gbC : Nat → Int32) (gnL : Int32) (gbL : Nat → Int32) (gnF : Int32) (gbF : Nat → Int32) (gnQ : Int32) (gbQ : Nat → Int32) (gE : Nat → Nat → Int32) (gtp : Int32) (glf : Int32) (gtr : Int32) (glh : Int32) (gov : Int32) (mW : Nat → Int32) (mC : Nat → Int32) (mL : Nat → Int32) (mR : Nat → Int32) (mQ : Nat → Int32) (mE : Nat → Int32) (mtb : Int32) (mnC : Int32) (mnL : Int32) (mnR : Int32) (mov : Int32) (mnQ : Int32) (mwr : Int32) (mwl : Int32) (mft : Int32) (mth : Int32) (mpl : Int32) (out : Nat → Int64) (v4 : Int32), j2 = j + 1 → v4 = nI (6 * j2) → I j2 (gM, gnC, gbC, gnL, gbL, gnF, gbF, gnQ, gbQ, gE, gtp, glf, gtr, glh, gov) (mW, mC, mL, mR, mQ, mE, mtb, mnC, mnL, mnR, mov, mnQ, mwr, mwl, mft, mth, mpl) → jw p l e room_1 s m #[Value.ref b] below meth c 7 D (fun q : Nat => s.heap.size ≤ q) (30 + j2) (33300 + 6 * j2) (lw_Z below #[Value.ref b] s) (lww a k am km qo ko gM gnC gbC gnL gbL gnF gbF gnQ gbQ gE gtp glf gtr glh gov mW mC mL mR mQ mE mtb mnC mnL mnR mov mnQ mwr mwl mft mth mpl out) [(0, .ref b), (1, .ref (a 0)), (2, .ref (am 0)), (3, .ref qo), (4, .int v4)] 23 []) :
    jw p l e room_1 s m #[Value.ref b] below meth c 7 D (fun q : Nat => s.heap.size ≤ q) (30 + j) (33300 + 6 * j) (lw_Z below #[Value.ref b] s) (lww a k am km qo ko gM gnC gbC gnL gbL gnF gbF gnQ gbQ gE gtp glf gtr glh gov mW mC mL mR mQ mE mtb mnC mnL mnR mov mnQ mwr mwl mft mth mpl out) [(0, .ref b), (1, .ref (a 0)), (2, .ref (am 0)), (3, .ref qo), (4, .int v4)] 937 [] := by
  have hbA : ¬ (fun q : Nat => s.heap.size ≤ q) b := Nat.not_le.mpr hbl
  have hv1 : vp_in (v4 + 1) L := by rw [hv]; exact lawin hj6 (by omega) (k := 1) rfl (by omega)
  have hv2 : vp_in (v4 + 2) L := by rw [hv]; exact lawin hj6 (by omega) (k := 2) rfl (by omega)
  have hv3 : vp_in (v4 + 3) L := by rw [hv]; exact lawin hj6 (by omega) (k := 3) rfl (by omega)
  have hv4 : vp_in (v4 + 4) L := by rw [hv]; exact lawin hj6 (by omega) (k := 4) rfl (by omega)
  have hv5 : vp_in (v4 + 5) L := by rw [hv]; exact lawin hj6 (by omega) (k := 5) rfl (by omega)
  have hv6 : v4 + 6 = nI (6 * (j + 1)) := by rw [hv]; exact lawsix j
  refine j_aload_n (pc := 937) C 1 dL_law_937 rfl rfl ?_
  refine j_aload_n (pc := 938) C 0 dL_law_938 rfl rfl ?_
  refine j_iload (pc := 939) C 4 dL_law_939 rfl ?_
  refine j_iconst (pc := 941) (v := 1) C dL_law_941 (by decide) ?_
  refine j_iadd (pc := 942) C dL_law_942 ?_
  refine j_sld (pc := 943) C hX hbl hbA hv1 dL_law_943 ?_
  refine j_aload_n (pc := 944) C 0 dL_law_944 rfl rfl ?_
  refine j_iload (pc := 945) C 4 dL_law_945 rfl ?_
  refine j_iconst (pc := 947) (v := 2) C dL_law_947 (by decide) ?_
  refine j_iadd (pc := 948) C dL_law_948 ?_
  refine j_sld (pc := 949) C hX hbl hbA hv2 dL_law_949 ?_
  obtain ⟨rw1, rmw1, w1mth, hw1, hmw1, hIw1⟩ := S_leaf j _ _ _ _ _ _ _ _ _ _ _ _ _ _ _ _ _ _ _ _ _ _ _ _ _ _ _ _ _ _ _ _ (xs (v4 + 1).toNatClampNeg) (xs (v4 + 2).toNatClampNeg) hjL hI
  refine j_callVi (pc := 950) (As := [.int (xs (v4 + 1).toNatClampNeg), .int (xs (v4 + 2).toNatClampNeg)]) (rest := []) (ws' := (lww a k am km qo ko gM gnC gbC gnL gbL gnF gbF gnQ gbQ gE gtp glf gtr glh gov mW mC mL mR mQ mE mtb mnC mnL mnR mov mnQ mwr mwl mft mth mpl out)) C K (ci := 2) (q0 := 0) rfl rfl rfl (ctX2_leaf l D a k _ _ _ _ _ _ _ _ _ _ _ _ _ _ _ _ _ _ hw1) gL_law_X2_leaf rfl rfl rfl hdyX2_leaf ⟨Nat.le_of_ble_eq_true rfl, Nat.le_of_ble_eq_true rfl⟩ (List.range 19) rfl (by decide) (jspA rfl rfl) [0, 1, 2, 3, 4, 5] rfl rfl (Nat.le_of_ble_eq_true rfl) dL_law_950 ⟨by show 30 + j ≤ 601024; omega, by show 33300 + 6 * j ≤ 7293033; omega⟩ ?_
  refine j_pop (pc := 953) C dL_law_953 rfl ?_
  refine j_aload_n (pc := 954) C 2 dL_law_954 rfl rfl ?_
  refine j_aload_n (pc := 955) C 0 dL_law_955 rfl rfl ?_
  refine j_iload (pc := 956) C 4 dL_law_956 rfl ?_
  refine j_iconst (pc := 958) (v := 1) C dL_law_958 (by decide) ?_
  refine j_iadd (pc := 959) C dL_law_959 ?_
  refine j_sld (pc := 960) C hX hbl hbA hv1 dL_law_960 ?_
  refine j_aload_n (pc := 961) C 0 dL_law_961 rfl rfl ?_
  refine j_iload (pc := 962) C 4 dL_law_962 rfl ?_
  refine j_iconst (pc := 964) (v := 2) C dL_law_964 (by decide) ?_
  refine j_iadd (pc := 965) C dL_law_965 ?_
  refine j_sld (pc := 966) C hX hbl hbA hv2 dL_law_966 ?_
  refine j_callVi (pc := 967) (As := [.int (xs (v4 + 1).toNatClampNeg), .int (xs (v4 + 2).toNatClampNeg)]) (rest := []) (ws' := (lww a k am km qo ko gM gnC gbC gnL gbL gnF gbF gnQ gbQ gE gtp glf gtr glh gov mW mC mL mR mQ mE mtb mnC mnL mnR mov mnQ mwr mwl mft w1mth mpl out)) C K (ci := 3) (q0 := 0) rfl rfl rfl (ctX3_leaf l D am km _ _ _ _ _ _ _ _ _ _ _ _ _ _ _ _ _ _ _ _ _ hmw1) gL_law_X3_leaf rfl rfl rfl hdyX3_leaf ⟨Nat.le_of_ble_eq_true rfl, Nat.le_of_ble_eq_true rfl⟩ ((List.range 7).map (fun i => 19 + i)) rfl (by decide) (jspB rfl rfl rfl) [6, 7, 8, 9, 10, 11] rfl rfl (Nat.le_of_ble_eq_true rfl) dL_law_967 ⟨by show 30 + j ≤ 601024; omega, by show 33300 + 6 * j ≤ 7293033; omega⟩ ?_
  refine j_pop (pc := 970) C dL_law_970 rfl ?_
  refine j_goto (pc := 971) (tgt := 974) C dL_law_971 (by decide) ?_
  refine j_iinc (pc := 974) (v := (v4 + 6)) (lv' := [(4, .int (v4 + 6)), (0, .ref b), (1, .ref (a 0)), (2, .ref (am 0)), (3, .ref qo)]) C 4 dL_law_974 rfl rfl (by decide) rfl ?_
  refine j_goto (pc := 977) (tgt := 23) C dL_law_977 (by decide) ?_
  refine j_widen (k := 30 + (j + 1)) (n := 33300 + 6 * (j + 1)) (by omega) (by omega) ?_
  exact j_lv [1, 2, 3, 4, 0] rfl (ih (j + 1) _ _ _ _ _ _ _ _ _ _ _ _ _ _ _ _ _ _ _ _ _ _ _ _ _ _ _ _ _ _ _ _ _ _ (by omega) hv6 hIw1)
set_option maxHeartbeats 4000000 in
set_option maxRecDepth 100000 in
theorem lawc_none {p : Program} {l : Launch} (hlt : l.stackTraces = false) {e : Env} {s : State} {m : MethodId} {below : List Frame} {meth : Method} {c : Code} {D : va_G} {b L : Nat} {xs : Nat → Int32} (hL : L ≤ 3072) (C : jc p s m #[Value.ref b] c code 7 RL wsL_law (fun q : Nat => s.heap.size ≤ q)) (hr : meth.sig.returnType = ret) (hlk : meth.locks = false) (hX : va_X b L xs s s.heap) (hbl : b < s.heap.size) (hxw : xw s) (hxz : xz (fun q : Nat => s.heap.size ≤ q) s s.heap) {I : Nat → GS → MS → Prop} (S_idle : sm_idle I 512) (a : Nat → Nat) (k : Nat → ClassId) (am : Nat → Nat) (km : Nat → ClassId) (qo : Nat) (ko : ClassId) (K : jk D (ltt k km ko) s) (j : Nat) (hjL : j < 512) (hj6 : 6 * j + 6 ≤ L) (v4 : Int32) (hv : v4 = nI (6 * j)) (gM : Nat → Int32) (gnC : Int32) (gbC : Nat → Int32) (gnL : Int32) (gbL : Nat → Int32) (gnF : Int32) (gbF : Nat → Int32) (gnQ : Int32) (gbQ : Nat → Int32) (gE : Nat → Nat → Int32) (gtp : Int32) (glf : Int32) (gtr : Int32) (glh : Int32) (gov : Int32) (mW : Nat → Int32) (mC : Nat → Int32) (mL : Nat → Int32) (mR : Nat → Int32) (mQ : Nat → Int32) (mE : Nat → Int32) (mtb : Int32) (mnC : Int32) (mnL : Int32) (mnR : Int32) (mov : Int32) (mnQ : Int32) (mwr : Int32) (mwl : Int32) (mft : Int32) (mth : Int32) (mpl : Int32) (out : Nat → Int64) (hI : I j (gM, gnC, gbC, gnL, gbL, gnF, gbF, gnQ, gbQ, gE, gtp, glf, gtr, glh, gov) (mW, mC, mL, mR, mQ, mE, mtb, mnC, mnL, mnR, mov, mnQ, mwr, mwl, mft, mth, mpl))
    (ih : ∀ (j2 : Nat) (gM : Nat → Int32) (gnC : Int32) (gbC : Nat → Int32) (gnL : Int32) (gbL : Nat → Int32) (gnF : Int32) (gbF : Nat → Int32) (gnQ : Int32) (gbQ : Nat → Int32) (gE : Nat → Nat → Int32) (gtp : Int32) (glf : Int32) (gtr : Int32) (glh : Int32) (gov : Int32) (mW : Nat → Int32) (mC : Nat → Int32) (mL : Nat → Int32) (mR : Nat → Int32) (mQ : Nat → Int32) (mE : Nat → Int32) (mtb : Int32) (mnC : Int32) (mnL : Int32) (mnR : Int32) (mov : Int32) (mnQ : Int32) (mwr : Int32) (mwl : Int32) (mft : Int32) (mth : Int32) (mpl : Int32) (out : Nat → Int64) (v4 : Int32), j2 = j + 1 → v4 = nI (6 * j2) → I j2 (gM, gnC, gbC, gnL, gbL, gnF, gbF, gnQ, gbQ, gE, gtp, glf, gtr, glh, gov) (mW, mC, mL, mR, mQ, mE, mtb, mnC, mnL, mnR, mov, mnQ, mwr, mwl, mft, mth, mpl) → jw p l e room_1 s m #[Value.ref b] below meth c 7 D (fun q : Nat => s.heap.size ≤ q) (30 + j2) (33300 + 6 * j2) (lw_Z below #[Value.ref b] s) (lww a k am km qo ko gM gnC gbC gnL gbL gnF gbF gnQ gbQ gE gtp glf gtr glh gov mW mC mL mR mQ mE mtb mnC mnL mnR mov mnQ mwr mwl mft mth mpl out) [(0, .ref b), (1, .ref (a 0)), (2, .ref (am 0)), (3, .ref qo), (4, .int v4)] 23 []) :
    jw p l e room_1 s m #[Value.ref b] below meth c 7 D (fun q : Nat => s.heap.size ≤ q) (30 + j) (33300 + 6 * j) (lw_Z below #[Value.ref b] s) (lww a k am km qo ko gM gnC gbC gnL gbL gnF gbF gnQ gbQ gE gtp glf gtr glh gov mW mC mL mR mQ mE mtb mnC mnL mnR mov mnQ mwr mwl mft mth mpl out) [(0, .ref b), (1, .ref (a 0)), (2, .ref (am 0)), (3, .ref qo), (4, .int v4)] 974 [] := by
  have hbA : ¬ (fun q : Nat => s.heap.size ≤ q) b := Nat.not_le.mpr hbl
  have hv1 : vp_in (v4 + 1) L := by rw [hv]; exact lawin hj6 (by omega) (k := 1) rfl (by omega)
  have hv2 : vp_in (v4 + 2) L := by rw [hv]; exact lawin hj6 (by omega) (k := 2) rfl (by omega)
  have hv3 : vp_in (v4 + 3) L := by rw [hv]; exact lawin hj6 (by omega) (k := 3) rfl (by omega)
  have hv4 : vp_in (v4 + 4) L := by rw [hv]; exact lawin hj6 (by omega) (k := 4) rfl (by omega)
  have hv5 : vp_in (v4 + 5) L := by rw [hv]; exact lawin hj6 (by omega) (k := 5) rfl (by omega)
  have hv6 : v4 + 6 = nI (6 * (j + 1)) := by rw [hv]; exact lawsix j
  have hIi := S_idle j (gM, gnC, gbC, gnL, gbL, gnF, gbF, gnQ, gbQ, gE, gtp, glf, gtr, glh, gov) (mW, mC, mL, mR, mQ, mE, mtb, mnC, mnL, mnR, mov, mnQ, mwr, mwl, mft, mth, mpl) hjL hI
  refine j_iinc (pc := 974) (v := (v4 + 6)) (lv' := [(4, .int (v4 + 6)), (0, .ref b), (1, .ref (a 0)), (2, .ref (am 0)), (3, .ref qo)]) C 4 dL_law_974 rfl rfl (by decide) rfl ?_
  refine j_goto (pc := 977) (tgt := 23) C dL_law_977 (by decide) ?_
  refine j_widen (k := 30 + (j + 1)) (n := 33300 + 6 * (j + 1)) (by omega) (by omega) ?_
  exact j_lv [1, 2, 3, 4, 0] rfl (ih (j + 1) _ _ _ _ _ _ _ _ _ _ _ _ _ _ _ _ _ _ _ _ _ _ _ _ _ _ _ _ _ _ _ _ _ _ (by omega) hv6 hIi)
