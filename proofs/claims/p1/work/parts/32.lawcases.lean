theorem hdyL_poke : yL_poke.cls ≠ "java/lang/invoke/MethodHandle" ∧ yL_poke.cls ≠ "java/lang/invoke/VarHandle" ∧ (parseMethodDescriptor yL_poke.desc).map (fun d => d.parameters.length) = some 4 := by decide +kernel
theorem hdyL_peek : yL_peek.cls ≠ "java/lang/invoke/MethodHandle" ∧ yL_peek.cls ≠ "java/lang/invoke/VarHandle" ∧ (parseMethodDescriptor yL_peek.desc).map (fun d => d.parameters.length) = some 3 := by decide +kernel
theorem hdyL_read : yL_read.cls ≠ "java/lang/invoke/MethodHandle" ∧ yL_read.cls ≠ "java/lang/invoke/VarHandle" ∧ (parseMethodDescriptor yL_read.desc).map (fun d => d.parameters.length) = some 4 := by decide +kernel
theorem lawin {j L : Nat} (h6 : 6 * j + 6 ≤ L) (hL : L < 2 ^ 31) {k : Nat} {x : Int32} (hx : x = nI k) (hk : k < 6) : vp_in (nI (6 * j) + x) L := by
  rw [hx, nI_add]
  exact vp_in_nI (by omega) hL
theorem lawsix (j : Nat) : nI (6 * j) + 6 = nI (6 * (j + 1)) := by
  rw [show (6 : Int32) = nI 6 from rfl, nI_add]
  congr 1
set_option maxHeartbeats 4000000 in
set_option maxRecDepth 100000 in
theorem lawc_poke {p : Program} {l : Launch} (hlt : l.stackTraces = false) {e : Env} {s : State} {m : MethodId} {below : List Frame} {meth : Method} {c : Code} {D : va_G} {b L : Nat} {xs : Nat → Int32} (hL : L ≤ 6) (C : jc p s m #[Value.ref b] c code 7 RL wsL_law (fun q : Nat => s.heap.size ≤ q)) (hr : meth.sig.returnType = ret) (hlk : meth.locks = false) (hX : va_X b L xs s s.heap) (hbl : b < s.heap.size) (hxw : xw s) (hxz : xz (fun q : Nat => s.heap.size ≤ q) s s.heap) {I : Nat → GS → MS → Prop} (S_poke : sm_poke I 1) (a : Nat → Nat) (k : Nat → ClassId) (am : Nat → Nat) (km : Nat → ClassId) (qo : Nat) (ko : ClassId) (K : jk D (ltt k km ko) s) (j : Nat) (hjL : j < 1) (hj6 : 6 * j + 6 ≤ L) (v4 : Int32) (hv : v4 = nI (6 * j)) (gM : Nat → Int32) (gnC : Int32) (gbC : Nat → Int32) (gnL : Int32) (gbL : Nat → Int32) (gnF : Int32) (gbF : Nat → Int32) (gnQ : Int32) (gbQ : Nat → Int32) (gE : Nat → Nat → Int32) (gtp : Int32) (glf : Int32) (gtr : Int32) (glh : Int32) (gov : Int32) (mW : Nat → Int32) (mC : Nat → Int32) (mL : Nat → Int32) (mR : Nat → Int32) (mQ : Nat → Int32) (mE : Nat → Int32) (mtb : Int32) (mnC : Int32) (mnL : Int32) (mnR : Int32) (mov : Int32) (mnQ : Int32) (mwr : Int32) (mwl : Int32) (mft : Int32) (mth : Int32) (mpl : Int32) (out : Nat → Int64) (hI : I j (gM, gnC, gbC, gnL, gbL, gnF, gbF, gnQ, gbQ, gE, gtp, glf, gtr, glh, gov) (mW, mC, mL, mR, mQ, mE, mtb, mnC, mnL, mnR, mov, mnQ, mwr, mwl, mft, mth, mpl))
    (ih : ∀ (j2 : Nat) (gM : Nat → Int32) (gnC : Int32) (gbC : Nat → Int32) (gnL : Int32) (gbL : Nat → Int32) (gnF : Int32) (gbF : Nat → Int32) (gnQ : Int32) (gbQ : Nat → Int32) (gE : Nat → Nat → Int32) (gtp : Int32) (glf : Int32) (gtr : Int32) (glh : Int32) (gov : Int32) (mW : Nat → Int32) (mC : Nat → Int32) (mL : Nat → Int32) (mR : Nat → Int32) (mQ : Nat → Int32) (mE : Nat → Int32) (mtb : Int32) (mnC : Int32) (mnL : Int32) (mnR : Int32) (mov : Int32) (mnQ : Int32) (mwr : Int32) (mwl : Int32) (mft : Int32) (mth : Int32) (mpl : Int32) (out : Nat → Int64) (v4 : Int32), j2 = j + 1 → v4 = nI (6 * j2) → I j2 (gM, gnC, gbC, gnL, gbL, gnF, gbF, gnQ, gbQ, gE, gtp, glf, gtr, glh, gov) (mW, mC, mL, mR, mQ, mE, mtb, mnC, mnL, mnR, mov, mnQ, mwr, mwl, mft, mth, mpl) → jw p l e room_1 s m #[Value.ref b] below meth c 7 D (fun q : Nat => s.heap.size ≤ q) (30 + j2) (33300 + 6 * j2) (lw_Z below #[Value.ref b] s) (lww a k am km qo ko gM gnC gbC gnL gbL gnF gbF gnQ gbQ gE gtp glf gtr glh gov mW mC mL mR mQ mE mtb mnC mnL mnR mov mnQ mwr mwl mft mth mpl out) [(0, .ref b), (1, .ref (a 0)), (2, .ref (am 0)), (3, .ref qo), (4, .int v4)] 23 []) :
    jw p l e room_1 s m #[Value.ref b] below meth c 7 D (fun q : Nat => s.heap.size ≤ q) (30 + j) (33300 + 6 * j) (lw_Z below #[Value.ref b] s) (lww a k am km qo ko gM gnC gbC gnL gbL gnF gbF gnQ gbQ gE gtp glf gtr glh gov mW mC mL mR mQ mE mtb mnC mnL mnR mov mnQ mwr mwl mft mth mpl out) [(0, .ref b), (1, .ref (a 0)), (2, .ref (am 0)), (3, .ref qo), (4, .int v4)] 140 [] := by
  have hbA : ¬ (fun q : Nat => s.heap.size ≤ q) b := Nat.not_le.mpr hbl
  have hv1 : vp_in (v4 + 1) L := by rw [hv]; exact lawin hj6 (by omega) (k := 1) rfl (by omega)
  have hv2 : vp_in (v4 + 2) L := by rw [hv]; exact lawin hj6 (by omega) (k := 2) rfl (by omega)
  have hv3 : vp_in (v4 + 3) L := by rw [hv]; exact lawin hj6 (by omega) (k := 3) rfl (by omega)
  have hv4 : vp_in (v4 + 4) L := by rw [hv]; exact lawin hj6 (by omega) (k := 4) rfl (by omega)
  have hv5 : vp_in (v4 + 5) L := by rw [hv]; exact lawin hj6 (by omega) (k := 5) rfl (by omega)
  have hv6 : v4 + 6 = nI (6 * (j + 1)) := by rw [hv]; exact lawsix j
  refine j_aload_n (pc := 140) C 1 dL_law_140 rfl rfl ?_
  refine j_aload_n (pc := 141) C 0 dL_law_141 rfl rfl ?_
  refine j_iload (pc := 142) C 4 dL_law_142 rfl ?_
  refine j_iconst (pc := 144) (v := 1) C dL_law_144 (by decide) ?_
  refine j_iadd (pc := 145) C dL_law_145 ?_
  refine j_sld (pc := 146) C hX hbl hbA hv1 dL_law_146 ?_
  refine j_aload_n (pc := 147) C 0 dL_law_147 rfl rfl ?_
  refine j_iload (pc := 148) C 4 dL_law_148 rfl ?_
  refine j_iconst (pc := 150) (v := 2) C dL_law_150 (by decide) ?_
  refine j_iadd (pc := 151) C dL_law_151 ?_
  refine j_sld (pc := 152) C hX hbl hbA hv2 dL_law_152 ?_
  refine j_aload_n (pc := 153) C 3 dL_law_153 rfl rfl ?_
  rcases S_poke j _ _ _ _ _ _ _ _ _ _ _ _ _ _ _ _ _ _ _ _ _ _ _ _ _ _ _ _ _ _ _ _ (xs (v4 + 1).toNatClampNeg) (xs (v4 + 2).toNatClampNeg) hjL hI with ⟨rw1, rmw1, w1gM, w1mW, w1mth, hw1, hmw1, htw1, hew1, hIw1⟩ | ⟨rmw1, w1mW, w1mth, hw1, hmw1, htw1, hIw1⟩
  · refine j_callSM (pc := 154) (As := [.ref (a 0), .int (xs (v4 + 1).toNatClampNeg), .int (xs (v4 + 2).toNatClampNeg), .ref qo]) (rest := []) (ws' := (lww a k am km qo ko w1gM gnC gbC gnL gbL gnF gbF gnQ gbQ gE gtp glf gtr glh gov mW mC mL mR mQ mE mtb mnC mnL mnR mov mnQ mwr mwl mft mth mpl (vp_updL out (0 : Int32).toNatClampNeg rw1.toInt64))) C K hxw hxz (ctL_poke_ret l D a k _ _ _ _ _ _ _ _ _ _ _ _ _ _ _ qo ko out _ _ _ _ hw1) gL_law_L_poke rfl rfl rfl hdyL_poke ⟨Nat.le_of_ble_eq_true rfl, Nat.le_of_ble_eq_true rfl⟩ (List.range 19 ++ (List.range 1).map (fun i => (19 + 7) + i)) rfl (by decide) (jspH rfl rfl rfl rfl rfl) [0, 1, 2, 3, 4, 5, 12] rfl rfl (Nat.le_of_ble_eq_true rfl) dL_law_154 ⟨by show 30 + j + 1 ≤ 600002; omega, by show 33300 + 6 * j + 6 ≤ 7302232; omega⟩ ?_
    refine j_istore (pc := 157) (lv' := [(5, .int 0), (0, .ref b), (1, .ref (a 0)), (2, .ref (am 0)), (3, .ref qo), (4, .int v4)]) C dL_law_157 (by decide) rfl ?_
    refine j_aload_n (pc := 159) C 3 dL_law_159 rfl rfl ?_
    refine j_aload_n (pc := 160) C 1 dL_law_160 rfl rfl ?_
    refine j_iload (pc := 161) C 5 dL_law_161 rfl ?_
    refine j_iconst (pc := 163) (v := 1) C dL_law_163 (by decide) ?_
    refine j_iadd (pc := 164) C dL_law_164 ?_
    refine j_sld (pc := 165) C hX hbl hbA hv1 dL_law_165 ?_
    refine j_aload_n (pc := 166) C 1 dL_law_166 rfl rfl ?_
    refine j_iload (pc := 167) C 5 dL_law_167 rfl ?_
    refine j_iconst (pc := 169) (v := 2) C dL_law_169 (by decide) ?_
    refine j_iadd (pc := 170) C dL_law_170 ?_
    refine j_sld (pc := 171) C hX hbl hbA hv2 dL_law_171 ?_
    refine j_callVi (pc := 172) (As := [.int (xs (v4 + 1).toNatClampNeg), .int (xs (v4 + 2).toNatClampNeg)]) (rest := []) (ws' := (lww a k am km qo ko w1gM gnC gbC gnL gbL gnF gbF gnQ gbQ gE gtp glf gtr glh gov w1mW mC mL mR mQ mE mtb mnC mnL mnR mov mnQ mwr mwl mft w1mth mpl (vp_updL out (0 : Int32).toNatClampNeg rw1.toInt64))) C K (ci := 3) (q0 := 0) rfl rfl rfl (ctX3_poke l D am km _ _ _ _ _ _ _ _ _ _ _ _ _ _ _ _ _ _ _ _ _ _ hmw1) gL_law_X3_poke rfl rfl rfl hdyX3_poke ⟨Nat.le_of_ble_eq_true rfl, Nat.le_of_ble_eq_true rfl⟩ ((List.range 7).map (fun i => 19 + i)) rfl (by decide) (jspB rfl rfl rfl) [6, 7, 8, 9, 10, 11] rfl rfl (Nat.le_of_ble_eq_true rfl) dL_law_172 ⟨by show 30 + j + 1 ≤ 600002; omega, by show 33300 + 6 * j + 6 ≤ 7302232; omega⟩ ?_
    refine j_istore (pc := 175) (lv' := [(6, .int rmw1), (5, .int 0), (0, .ref b), (1, .ref (a 0)), (2, .ref (am 0)), (3, .ref qo), (4, .int v4)]) C dL_law_175 (by decide) rfl ?_
    refine j_aload_n (pc := 177) C 4 dL_law_177 rfl rfl ?_
    refine j_callVi (pc := 178) (As := []) (rest := []) (ws' := (lww a k am km qo ko w1gM gnC gbC gnL gbL gnF gbF gnQ gbQ gE gtp glf gtr glh gov w1mW mC mL mR mQ mE mtb mnC mnL mnR mov mnQ mwr mwl mft w1mth mpl (vp_updL out (0 : Int32).toNatClampNeg rw1.toInt64))) C K (ci := 3) (q0 := 0) rfl rfl rfl (ctX3_thrown l D am km _ _ _ _ _ _ _ _ _ _ _ _ _ _ _ _ _ _ rfl) gL_law_X3_thrown rfl rfl rfl hdyX3_thrown ⟨Nat.le_of_ble_eq_true rfl, Nat.le_of_ble_eq_true rfl⟩ ((List.range 7).map (fun i => 19 + i)) rfl (by decide) (jspB rfl rfl rfl) [6, 7, 8, 9, 10, 11] rfl rfl (Nat.le_of_ble_eq_true rfl) dL_law_178 ⟨by show 30 + j + 1 ≤ 600002; omega, by show 33300 + 6 * j + 6 ≤ 7302232; omega⟩ ?_
    refine j_iload (pc := 181) C 1 dL_law_181 rfl ?_
    refine j_icmp_eq (pc := 183) (tgt := 188) C dL_law_183 (by decide) (fun _ => ?_) (fun h => absurd htw1 h)
    refine j_iload (pc := 188) C 1 dL_law_188 rfl ?_
    refine j_if_ne (pc := 190) (tgt := 205) C dL_law_190 (by decide) (fun h => absurd h (by decide)) (fun _ => ?_)
    refine j_aload_n (pc := 193) C 5 dL_law_193 rfl rfl ?_
    refine j_iconst (pc := 194) (v := 0) C dL_law_194 (by decide) ?_
    refine j_laload (pc := 195) C K 26 12 rfl rfl (by decide) dL_law_195 ?_
    refine j_iload (pc := 196) C 0 dL_law_196 rfl ?_
    refine j_i2l (pc := 198) C dL_law_198 ?_
    refine j_lcmp (pc := 199) C dL_law_199 ?_
    refine j_if_eq (pc := 200) (tgt := 205) C dL_law_200 (by decide) (fun _ => ?_) (fun h => absurd (show lg_cmp rw1.toInt64 rmw1.toInt64 = 0 by rw [hew1]; exact lg_cmp_self _) h)
    refine j_goto (pc := 205) (tgt := 1030) C dL_law_205 (by decide) ?_
    refine j_iinc (pc := 1030) (v := (v4 + 6)) (lv' := [(4, .int (v4 + 6)), (6, .int rmw1), (5, .int 0), (0, .ref b), (1, .ref (a 0)), (2, .ref (am 0)), (3, .ref qo)]) C 6 dL_law_1030 rfl rfl (by decide) rfl ?_
    refine j_goto (pc := 1033) (tgt := 23) C dL_law_1033 (by decide) ?_
    refine j_widen (k := 30 + (j + 1)) (n := 33300 + 6 * (j + 1)) (by omega) (by omega) ?_
    exact j_lv [3, 4, 5, 6, 0] rfl (ih (j + 1) _ _ _ _ _ _ _ _ _ _ _ _ _ _ _ _ _ _ _ _ _ _ _ _ _ _ _ _ _ _ _ _ _ _ (by omega) hv6 hIw1)
  · refine j_callSM (pc := 154) (As := [.ref (a 0), .int (xs (v4 + 1).toNatClampNeg), .int (xs (v4 + 2).toNatClampNeg), .ref qo]) (rest := []) (ws' := (lww a k am km qo ko gM gnC gbC gnL gbL gnF gbF gnQ gbQ gE gtp glf gtr glh gov mW mC mL mR mQ mE mtb mnC mnL mnR mov mnQ mwr mwl mft mth mpl out)) C K hxw hxz (ctL_poke_thr l hlt D a k _ _ _ _ _ _ _ _ _ _ _ _ _ _ _ qo ko out _ _ hw1) gL_law_L_poke rfl rfl rfl hdyL_poke ⟨Nat.le_of_ble_eq_true rfl, Nat.le_of_ble_eq_true rfl⟩ (List.range 19 ++ (List.range 1).map (fun i => (19 + 7) + i)) rfl (by decide) (jspH rfl rfl rfl rfl rfl) [0, 1, 2, 3, 4, 5, 12] rfl rfl (Nat.le_of_ble_eq_true rfl) dL_law_154 ⟨by show 30 + j + 1 ≤ 600002; omega, by show 33300 + 6 * j + 6 ≤ 7302232; omega⟩ ?_
    refine j_istore (pc := 157) (lv' := [(5, .int 1), (0, .ref b), (1, .ref (a 0)), (2, .ref (am 0)), (3, .ref qo), (4, .int v4)]) C dL_law_157 (by decide) rfl ?_
    refine j_aload_n (pc := 159) C 3 dL_law_159 rfl rfl ?_
    refine j_aload_n (pc := 160) C 1 dL_law_160 rfl rfl ?_
    refine j_iload (pc := 161) C 5 dL_law_161 rfl ?_
    refine j_iconst (pc := 163) (v := 1) C dL_law_163 (by decide) ?_
    refine j_iadd (pc := 164) C dL_law_164 ?_
    refine j_sld (pc := 165) C hX hbl hbA hv1 dL_law_165 ?_
    refine j_aload_n (pc := 166) C 1 dL_law_166 rfl rfl ?_
    refine j_iload (pc := 167) C 5 dL_law_167 rfl ?_
    refine j_iconst (pc := 169) (v := 2) C dL_law_169 (by decide) ?_
    refine j_iadd (pc := 170) C dL_law_170 ?_
    refine j_sld (pc := 171) C hX hbl hbA hv2 dL_law_171 ?_
    refine j_callVi (pc := 172) (As := [.int (xs (v4 + 1).toNatClampNeg), .int (xs (v4 + 2).toNatClampNeg)]) (rest := []) (ws' := (lww a k am km qo ko gM gnC gbC gnL gbL gnF gbF gnQ gbQ gE gtp glf gtr glh gov w1mW mC mL mR mQ mE mtb mnC mnL mnR mov mnQ mwr mwl mft w1mth mpl out)) C K (ci := 3) (q0 := 0) rfl rfl rfl (ctX3_poke l D am km _ _ _ _ _ _ _ _ _ _ _ _ _ _ _ _ _ _ _ _ _ _ hmw1) gL_law_X3_poke rfl rfl rfl hdyX3_poke ⟨Nat.le_of_ble_eq_true rfl, Nat.le_of_ble_eq_true rfl⟩ ((List.range 7).map (fun i => 19 + i)) rfl (by decide) (jspB rfl rfl rfl) [6, 7, 8, 9, 10, 11] rfl rfl (Nat.le_of_ble_eq_true rfl) dL_law_172 ⟨by show 30 + j + 1 ≤ 600002; omega, by show 33300 + 6 * j + 6 ≤ 7302232; omega⟩ ?_
    refine j_istore (pc := 175) (lv' := [(6, .int rmw1), (5, .int 1), (0, .ref b), (1, .ref (a 0)), (2, .ref (am 0)), (3, .ref qo), (4, .int v4)]) C dL_law_175 (by decide) rfl ?_
    refine j_aload_n (pc := 177) C 4 dL_law_177 rfl rfl ?_
    refine j_callVi (pc := 178) (As := []) (rest := []) (ws' := (lww a k am km qo ko gM gnC gbC gnL gbL gnF gbF gnQ gbQ gE gtp glf gtr glh gov w1mW mC mL mR mQ mE mtb mnC mnL mnR mov mnQ mwr mwl mft w1mth mpl out)) C K (ci := 3) (q0 := 0) rfl rfl rfl (ctX3_thrown l D am km _ _ _ _ _ _ _ _ _ _ _ _ _ _ _ _ _ _ rfl) gL_law_X3_thrown rfl rfl rfl hdyX3_thrown ⟨Nat.le_of_ble_eq_true rfl, Nat.le_of_ble_eq_true rfl⟩ ((List.range 7).map (fun i => 19 + i)) rfl (by decide) (jspB rfl rfl rfl) [6, 7, 8, 9, 10, 11] rfl rfl (Nat.le_of_ble_eq_true rfl) dL_law_178 ⟨by show 30 + j + 1 ≤ 600002; omega, by show 33300 + 6 * j + 6 ≤ 7302232; omega⟩ ?_
    refine j_iload (pc := 181) C 1 dL_law_181 rfl ?_
    refine j_icmp_eq (pc := 183) (tgt := 188) C dL_law_183 (by decide) (fun _ => ?_) (fun h => absurd htw1 h)
    refine j_iload (pc := 188) C 1 dL_law_188 rfl ?_
    refine j_if_ne (pc := 190) (tgt := 205) C dL_law_190 (by decide) (fun _ => ?_) (fun h => absurd h (by decide))
    refine j_goto (pc := 205) (tgt := 1030) C dL_law_205 (by decide) ?_
    refine j_iinc (pc := 1030) (v := (v4 + 6)) (lv' := [(4, .int (v4 + 6)), (6, .int rmw1), (5, .int 1), (0, .ref b), (1, .ref (a 0)), (2, .ref (am 0)), (3, .ref qo)]) C 6 dL_law_1030 rfl rfl (by decide) rfl ?_
    refine j_goto (pc := 1033) (tgt := 23) C dL_law_1033 (by decide) ?_
    refine j_widen (k := 30 + (j + 1)) (n := 33300 + 6 * (j + 1)) (by omega) (by omega) ?_
    exact j_lv [3, 4, 5, 6, 0] rfl (ih (j + 1) _ _ _ _ _ _ _ _ _ _ _ _ _ _ _ _ _ _ _ _ _ _ _ _ _ _ _ _ _ _ _ _ _ _ (by omega) hv6 hIw1)
set_option maxHeartbeats 4000000 in
set_option maxRecDepth 100000 in
theorem lawc_peek {p : Program} {l : Launch} (hlt : l.stackTraces = false) {e : Env} {s : State} {m : MethodId} {below : List Frame} {meth : Method} {c : Code} {D : va_G} {b L : Nat} {xs : Nat → Int32} (hL : L ≤ 6) (C : jc p s m #[Value.ref b] c code 7 RL wsL_law (fun q : Nat => s.heap.size ≤ q)) (hr : meth.sig.returnType = ret) (hlk : meth.locks = false) (hX : va_X b L xs s s.heap) (hbl : b < s.heap.size) (hxw : xw s) (hxz : xz (fun q : Nat => s.heap.size ≤ q) s s.heap) {I : Nat → GS → MS → Prop} (S_peek : sm_peek I 1) (a : Nat → Nat) (k : Nat → ClassId) (am : Nat → Nat) (km : Nat → ClassId) (qo : Nat) (ko : ClassId) (K : jk D (ltt k km ko) s) (j : Nat) (hjL : j < 1) (hj6 : 6 * j + 6 ≤ L) (v4 : Int32) (hv : v4 = nI (6 * j)) (gM : Nat → Int32) (gnC : Int32) (gbC : Nat → Int32) (gnL : Int32) (gbL : Nat → Int32) (gnF : Int32) (gbF : Nat → Int32) (gnQ : Int32) (gbQ : Nat → Int32) (gE : Nat → Nat → Int32) (gtp : Int32) (glf : Int32) (gtr : Int32) (glh : Int32) (gov : Int32) (mW : Nat → Int32) (mC : Nat → Int32) (mL : Nat → Int32) (mR : Nat → Int32) (mQ : Nat → Int32) (mE : Nat → Int32) (mtb : Int32) (mnC : Int32) (mnL : Int32) (mnR : Int32) (mov : Int32) (mnQ : Int32) (mwr : Int32) (mwl : Int32) (mft : Int32) (mth : Int32) (mpl : Int32) (out : Nat → Int64) (hI : I j (gM, gnC, gbC, gnL, gbL, gnF, gbF, gnQ, gbQ, gE, gtp, glf, gtr, glh, gov) (mW, mC, mL, mR, mQ, mE, mtb, mnC, mnL, mnR, mov, mnQ, mwr, mwl, mft, mth, mpl))
    (ih : ∀ (j2 : Nat) (gM : Nat → Int32) (gnC : Int32) (gbC : Nat → Int32) (gnL : Int32) (gbL : Nat → Int32) (gnF : Int32) (gbF : Nat → Int32) (gnQ : Int32) (gbQ : Nat → Int32) (gE : Nat → Nat → Int32) (gtp : Int32) (glf : Int32) (gtr : Int32) (glh : Int32) (gov : Int32) (mW : Nat → Int32) (mC : Nat → Int32) (mL : Nat → Int32) (mR : Nat → Int32) (mQ : Nat → Int32) (mE : Nat → Int32) (mtb : Int32) (mnC : Int32) (mnL : Int32) (mnR : Int32) (mov : Int32) (mnQ : Int32) (mwr : Int32) (mwl : Int32) (mft : Int32) (mth : Int32) (mpl : Int32) (out : Nat → Int64) (v4 : Int32), j2 = j + 1 → v4 = nI (6 * j2) → I j2 (gM, gnC, gbC, gnL, gbL, gnF, gbF, gnQ, gbQ, gE, gtp, glf, gtr, glh, gov) (mW, mC, mL, mR, mQ, mE, mtb, mnC, mnL, mnR, mov, mnQ, mwr, mwl, mft, mth, mpl) → jw p l e room_1 s m #[Value.ref b] below meth c 7 D (fun q : Nat => s.heap.size ≤ q) (30 + j2) (33300 + 6 * j2) (lw_Z below #[Value.ref b] s) (lww a k am km qo ko gM gnC gbC gnL gbL gnF gbF gnQ gbQ gE gtp glf gtr glh gov mW mC mL mR mQ mE mtb mnC mnL mnR mov mnQ mwr mwl mft mth mpl out) [(0, .ref b), (1, .ref (a 0)), (2, .ref (am 0)), (3, .ref qo), (4, .int v4)] 23 []) :
    jw p l e room_1 s m #[Value.ref b] below meth c 7 D (fun q : Nat => s.heap.size ≤ q) (30 + j) (33300 + 6 * j) (lw_Z below #[Value.ref b] s) (lww a k am km qo ko gM gnC gbC gnL gbL gnF gbF gnQ gbQ gE gtp glf gtr glh gov mW mC mL mR mQ mE mtb mnC mnL mnR mov mnQ mwr mwl mft mth mpl out) [(0, .ref b), (1, .ref (a 0)), (2, .ref (am 0)), (3, .ref qo), (4, .int v4)] 208 [] := by
  have hbA : ¬ (fun q : Nat => s.heap.size ≤ q) b := Nat.not_le.mpr hbl
  have hv1 : vp_in (v4 + 1) L := by rw [hv]; exact lawin hj6 (by omega) (k := 1) rfl (by omega)
  have hv2 : vp_in (v4 + 2) L := by rw [hv]; exact lawin hj6 (by omega) (k := 2) rfl (by omega)
  have hv3 : vp_in (v4 + 3) L := by rw [hv]; exact lawin hj6 (by omega) (k := 3) rfl (by omega)
  have hv4 : vp_in (v4 + 4) L := by rw [hv]; exact lawin hj6 (by omega) (k := 4) rfl (by omega)
  have hv5 : vp_in (v4 + 5) L := by rw [hv]; exact lawin hj6 (by omega) (k := 5) rfl (by omega)
  have hv6 : v4 + 6 = nI (6 * (j + 1)) := by rw [hv]; exact lawsix j
  refine j_aload_n (pc := 208) C 1 dL_law_208 rfl rfl ?_
  refine j_aload_n (pc := 209) C 0 dL_law_209 rfl rfl ?_
  refine j_iload (pc := 210) C 4 dL_law_210 rfl ?_
  refine j_iconst (pc := 212) (v := 1) C dL_law_212 (by decide) ?_
  refine j_iadd (pc := 213) C dL_law_213 ?_
  refine j_sld (pc := 214) C hX hbl hbA hv1 dL_law_214 ?_
  refine j_aload_n (pc := 215) C 3 dL_law_215 rfl rfl ?_
  rcases S_peek j _ _ _ _ _ _ _ _ _ _ _ _ _ _ _ _ _ _ _ _ _ _ _ _ _ _ _ _ _ _ _ _ (xs (v4 + 1).toNatClampNeg) hjL hI with ⟨rw1, rmw1, w1mth, hw1, hmw1, htw1, hew1, hIw1⟩ | ⟨rmw1, w1mth, hw1, hmw1, htw1, hIw1⟩
  · refine j_callSM (pc := 216) (As := [.ref (a 0), .int (xs (v4 + 1).toNatClampNeg), .ref qo]) (rest := []) (ws' := (lww a k am km qo ko gM gnC gbC gnL gbL gnF gbF gnQ gbQ gE gtp glf gtr glh gov mW mC mL mR mQ mE mtb mnC mnL mnR mov mnQ mwr mwl mft mth mpl (vp_updL out (0 : Int32).toNatClampNeg rw1.toInt64))) C K hxw hxz (ctL_peek_ret l D a k _ _ _ _ _ _ _ _ _ _ _ _ _ _ _ qo ko out _ _ hw1) gL_law_L_peek rfl rfl rfl hdyL_peek ⟨Nat.le_of_ble_eq_true rfl, Nat.le_of_ble_eq_true rfl⟩ (List.range 19 ++ (List.range 1).map (fun i => (19 + 7) + i)) rfl (by decide) (jspH rfl rfl rfl rfl rfl) [0, 1, 2, 3, 4, 5, 12] rfl rfl (Nat.le_of_ble_eq_true rfl) dL_law_216 ⟨by show 30 + j + 1 ≤ 600002; omega, by show 33300 + 6 * j + 6 ≤ 7302232; omega⟩ ?_
    refine j_istore (pc := 219) (lv' := [(5, .int 0), (0, .ref b), (1, .ref (a 0)), (2, .ref (am 0)), (3, .ref qo), (4, .int v4)]) C dL_law_219 (by decide) rfl ?_
    refine j_aload_n (pc := 221) C 3 dL_law_221 rfl rfl ?_
    refine j_aload_n (pc := 222) C 1 dL_law_222 rfl rfl ?_
    refine j_iload (pc := 223) C 5 dL_law_223 rfl ?_
    refine j_iconst (pc := 225) (v := 1) C dL_law_225 (by decide) ?_
    refine j_iadd (pc := 226) C dL_law_226 ?_
    refine j_sld (pc := 227) C hX hbl hbA hv1 dL_law_227 ?_
    refine j_callVi (pc := 228) (As := [.int (xs (v4 + 1).toNatClampNeg)]) (rest := []) (ws' := (lww a k am km qo ko gM gnC gbC gnL gbL gnF gbF gnQ gbQ gE gtp glf gtr glh gov mW mC mL mR mQ mE mtb mnC mnL mnR mov mnQ mwr mwl mft w1mth mpl (vp_updL out (0 : Int32).toNatClampNeg rw1.toInt64))) C K (ci := 3) (q0 := 0) rfl rfl rfl (ctX3_peek l D am km _ _ _ _ _ _ _ _ _ _ _ _ _ _ _ _ _ _ _ _ hmw1) gL_law_X3_peek rfl rfl rfl hdyX3_peek ⟨Nat.le_of_ble_eq_true rfl, Nat.le_of_ble_eq_true rfl⟩ ((List.range 7).map (fun i => 19 + i)) rfl (by decide) (jspB rfl rfl rfl) [6, 7, 8, 9, 10, 11] rfl rfl (Nat.le_of_ble_eq_true rfl) dL_law_228 ⟨by show 30 + j + 1 ≤ 600002; omega, by show 33300 + 6 * j + 6 ≤ 7302232; omega⟩ ?_
    refine j_istore (pc := 231) (lv' := [(6, .int rmw1), (5, .int 0), (0, .ref b), (1, .ref (a 0)), (2, .ref (am 0)), (3, .ref qo), (4, .int v4)]) C dL_law_231 (by decide) rfl ?_
    refine j_aload_n (pc := 233) C 4 dL_law_233 rfl rfl ?_
    refine j_callVi (pc := 234) (As := []) (rest := []) (ws' := (lww a k am km qo ko gM gnC gbC gnL gbL gnF gbF gnQ gbQ gE gtp glf gtr glh gov mW mC mL mR mQ mE mtb mnC mnL mnR mov mnQ mwr mwl mft w1mth mpl (vp_updL out (0 : Int32).toNatClampNeg rw1.toInt64))) C K (ci := 3) (q0 := 0) rfl rfl rfl (ctX3_thrown l D am km _ _ _ _ _ _ _ _ _ _ _ _ _ _ _ _ _ _ rfl) gL_law_X3_thrown rfl rfl rfl hdyX3_thrown ⟨Nat.le_of_ble_eq_true rfl, Nat.le_of_ble_eq_true rfl⟩ ((List.range 7).map (fun i => 19 + i)) rfl (by decide) (jspB rfl rfl rfl) [6, 7, 8, 9, 10, 11] rfl rfl (Nat.le_of_ble_eq_true rfl) dL_law_234 ⟨by show 30 + j + 1 ≤ 600002; omega, by show 33300 + 6 * j + 6 ≤ 7302232; omega⟩ ?_
    refine j_iload (pc := 237) C 1 dL_law_237 rfl ?_
    refine j_icmp_eq (pc := 239) (tgt := 244) C dL_law_239 (by decide) (fun _ => ?_) (fun h => absurd htw1 h)
    refine j_iload (pc := 244) C 1 dL_law_244 rfl ?_
    refine j_if_ne (pc := 246) (tgt := 261) C dL_law_246 (by decide) (fun h => absurd h (by decide)) (fun _ => ?_)
    refine j_aload_n (pc := 249) C 5 dL_law_249 rfl rfl ?_
    refine j_iconst (pc := 250) (v := 0) C dL_law_250 (by decide) ?_
    refine j_laload (pc := 251) C K 26 12 rfl rfl (by decide) dL_law_251 ?_
    refine j_iload (pc := 252) C 0 dL_law_252 rfl ?_
    refine j_i2l (pc := 254) C dL_law_254 ?_
    refine j_lcmp (pc := 255) C dL_law_255 ?_
    refine j_if_eq (pc := 256) (tgt := 261) C dL_law_256 (by decide) (fun _ => ?_) (fun h => absurd (show lg_cmp rw1.toInt64 rmw1.toInt64 = 0 by rw [hew1]; exact lg_cmp_self _) h)
    refine j_goto (pc := 261) (tgt := 1030) C dL_law_261 (by decide) ?_
    refine j_iinc (pc := 1030) (v := (v4 + 6)) (lv' := [(4, .int (v4 + 6)), (6, .int rmw1), (5, .int 0), (0, .ref b), (1, .ref (a 0)), (2, .ref (am 0)), (3, .ref qo)]) C 6 dL_law_1030 rfl rfl (by decide) rfl ?_
    refine j_goto (pc := 1033) (tgt := 23) C dL_law_1033 (by decide) ?_
    refine j_widen (k := 30 + (j + 1)) (n := 33300 + 6 * (j + 1)) (by omega) (by omega) ?_
    exact j_lv [3, 4, 5, 6, 0] rfl (ih (j + 1) _ _ _ _ _ _ _ _ _ _ _ _ _ _ _ _ _ _ _ _ _ _ _ _ _ _ _ _ _ _ _ _ _ _ (by omega) hv6 hIw1)
  · refine j_callSM (pc := 216) (As := [.ref (a 0), .int (xs (v4 + 1).toNatClampNeg), .ref qo]) (rest := []) (ws' := (lww a k am km qo ko gM gnC gbC gnL gbL gnF gbF gnQ gbQ gE gtp glf gtr glh gov mW mC mL mR mQ mE mtb mnC mnL mnR mov mnQ mwr mwl mft mth mpl out)) C K hxw hxz (ctL_peek_thr l hlt D a k _ _ _ _ _ _ _ _ _ _ _ _ _ _ _ qo ko out _ hw1) gL_law_L_peek rfl rfl rfl hdyL_peek ⟨Nat.le_of_ble_eq_true rfl, Nat.le_of_ble_eq_true rfl⟩ (List.range 19 ++ (List.range 1).map (fun i => (19 + 7) + i)) rfl (by decide) (jspH rfl rfl rfl rfl rfl) [0, 1, 2, 3, 4, 5, 12] rfl rfl (Nat.le_of_ble_eq_true rfl) dL_law_216 ⟨by show 30 + j + 1 ≤ 600002; omega, by show 33300 + 6 * j + 6 ≤ 7302232; omega⟩ ?_
    refine j_istore (pc := 219) (lv' := [(5, .int 1), (0, .ref b), (1, .ref (a 0)), (2, .ref (am 0)), (3, .ref qo), (4, .int v4)]) C dL_law_219 (by decide) rfl ?_
    refine j_aload_n (pc := 221) C 3 dL_law_221 rfl rfl ?_
    refine j_aload_n (pc := 222) C 1 dL_law_222 rfl rfl ?_
    refine j_iload (pc := 223) C 5 dL_law_223 rfl ?_
    refine j_iconst (pc := 225) (v := 1) C dL_law_225 (by decide) ?_
    refine j_iadd (pc := 226) C dL_law_226 ?_
    refine j_sld (pc := 227) C hX hbl hbA hv1 dL_law_227 ?_
    refine j_callVi (pc := 228) (As := [.int (xs (v4 + 1).toNatClampNeg)]) (rest := []) (ws' := (lww a k am km qo ko gM gnC gbC gnL gbL gnF gbF gnQ gbQ gE gtp glf gtr glh gov mW mC mL mR mQ mE mtb mnC mnL mnR mov mnQ mwr mwl mft w1mth mpl out)) C K (ci := 3) (q0 := 0) rfl rfl rfl (ctX3_peek l D am km _ _ _ _ _ _ _ _ _ _ _ _ _ _ _ _ _ _ _ _ hmw1) gL_law_X3_peek rfl rfl rfl hdyX3_peek ⟨Nat.le_of_ble_eq_true rfl, Nat.le_of_ble_eq_true rfl⟩ ((List.range 7).map (fun i => 19 + i)) rfl (by decide) (jspB rfl rfl rfl) [6, 7, 8, 9, 10, 11] rfl rfl (Nat.le_of_ble_eq_true rfl) dL_law_228 ⟨by show 30 + j + 1 ≤ 600002; omega, by show 33300 + 6 * j + 6 ≤ 7302232; omega⟩ ?_
    refine j_istore (pc := 231) (lv' := [(6, .int rmw1), (5, .int 1), (0, .ref b), (1, .ref (a 0)), (2, .ref (am 0)), (3, .ref qo), (4, .int v4)]) C dL_law_231 (by decide) rfl ?_
    refine j_aload_n (pc := 233) C 4 dL_law_233 rfl rfl ?_
    refine j_callVi (pc := 234) (As := []) (rest := []) (ws' := (lww a k am km qo ko gM gnC gbC gnL gbL gnF gbF gnQ gbQ gE gtp glf gtr glh gov mW mC mL mR mQ mE mtb mnC mnL mnR mov mnQ mwr mwl mft w1mth mpl out)) C K (ci := 3) (q0 := 0) rfl rfl rfl (ctX3_thrown l D am km _ _ _ _ _ _ _ _ _ _ _ _ _ _ _ _ _ _ rfl) gL_law_X3_thrown rfl rfl rfl hdyX3_thrown ⟨Nat.le_of_ble_eq_true rfl, Nat.le_of_ble_eq_true rfl⟩ ((List.range 7).map (fun i => 19 + i)) rfl (by decide) (jspB rfl rfl rfl) [6, 7, 8, 9, 10, 11] rfl rfl (Nat.le_of_ble_eq_true rfl) dL_law_234 ⟨by show 30 + j + 1 ≤ 600002; omega, by show 33300 + 6 * j + 6 ≤ 7302232; omega⟩ ?_
    refine j_iload (pc := 237) C 1 dL_law_237 rfl ?_
    refine j_icmp_eq (pc := 239) (tgt := 244) C dL_law_239 (by decide) (fun _ => ?_) (fun h => absurd htw1 h)
    refine j_iload (pc := 244) C 1 dL_law_244 rfl ?_
    refine j_if_ne (pc := 246) (tgt := 261) C dL_law_246 (by decide) (fun _ => ?_) (fun h => absurd h (by decide))
    refine j_goto (pc := 261) (tgt := 1030) C dL_law_261 (by decide) ?_
    refine j_iinc (pc := 1030) (v := (v4 + 6)) (lv' := [(4, .int (v4 + 6)), (6, .int rmw1), (5, .int 1), (0, .ref b), (1, .ref (a 0)), (2, .ref (am 0)), (3, .ref qo)]) C 6 dL_law_1030 rfl rfl (by decide) rfl ?_
    refine j_goto (pc := 1033) (tgt := 23) C dL_law_1033 (by decide) ?_
    refine j_widen (k := 30 + (j + 1)) (n := 33300 + 6 * (j + 1)) (by omega) (by omega) ?_
    exact j_lv [3, 4, 5, 6, 0] rfl (ih (j + 1) _ _ _ _ _ _ _ _ _ _ _ _ _ _ _ _ _ _ _ _ _ _ _ _ _ _ _ _ _ _ _ _ _ _ (by omega) hv6 hIw1)
set_option maxHeartbeats 4000000 in
set_option maxRecDepth 100000 in
theorem lawc_fill {p : Program} {l : Launch} (hlt : l.stackTraces = false) {e : Env} {s : State} {m : MethodId} {below : List Frame} {meth : Method} {c : Code} {D : va_G} {b L : Nat} {xs : Nat → Int32} (hL : L ≤ 6) (C : jc p s m #[Value.ref b] c code 7 RL wsL_law (fun q : Nat => s.heap.size ≤ q)) (hr : meth.sig.returnType = ret) (hlk : meth.locks = false) (hX : va_X b L xs s s.heap) (hbl : b < s.heap.size) (hxw : xw s) (hxz : xz (fun q : Nat => s.heap.size ≤ q) s s.heap) {I : Nat → GS → MS → Prop} (S_fill : sm_fill I 1) (a : Nat → Nat) (k : Nat → ClassId) (am : Nat → Nat) (km : Nat → ClassId) (qo : Nat) (ko : ClassId) (K : jk D (ltt k km ko) s) (j : Nat) (hjL : j < 1) (hj6 : 6 * j + 6 ≤ L) (v4 : Int32) (hv : v4 = nI (6 * j)) (gM : Nat → Int32) (gnC : Int32) (gbC : Nat → Int32) (gnL : Int32) (gbL : Nat → Int32) (gnF : Int32) (gbF : Nat → Int32) (gnQ : Int32) (gbQ : Nat → Int32) (gE : Nat → Nat → Int32) (gtp : Int32) (glf : Int32) (gtr : Int32) (glh : Int32) (gov : Int32) (mW : Nat → Int32) (mC : Nat → Int32) (mL : Nat → Int32) (mR : Nat → Int32) (mQ : Nat → Int32) (mE : Nat → Int32) (mtb : Int32) (mnC : Int32) (mnL : Int32) (mnR : Int32) (mov : Int32) (mnQ : Int32) (mwr : Int32) (mwl : Int32) (mft : Int32) (mth : Int32) (mpl : Int32) (out : Nat → Int64) (hI : I j (gM, gnC, gbC, gnL, gbL, gnF, gbF, gnQ, gbQ, gE, gtp, glf, gtr, glh, gov) (mW, mC, mL, mR, mQ, mE, mtb, mnC, mnL, mnR, mov, mnQ, mwr, mwl, mft, mth, mpl))
    (ih : ∀ (j2 : Nat) (gM : Nat → Int32) (gnC : Int32) (gbC : Nat → Int32) (gnL : Int32) (gbL : Nat → Int32) (gnF : Int32) (gbF : Nat → Int32) (gnQ : Int32) (gbQ : Nat → Int32) (gE : Nat → Nat → Int32) (gtp : Int32) (glf : Int32) (gtr : Int32) (glh : Int32) (gov : Int32) (mW : Nat → Int32) (mC : Nat → Int32) (mL : Nat → Int32) (mR : Nat → Int32) (mQ : Nat → Int32) (mE : Nat → Int32) (mtb : Int32) (mnC : Int32) (mnL : Int32) (mnR : Int32) (mov : Int32) (mnQ : Int32) (mwr : Int32) (mwl : Int32) (mft : Int32) (mth : Int32) (mpl : Int32) (out : Nat → Int64) (v4 : Int32), j2 = j + 1 → v4 = nI (6 * j2) → I j2 (gM, gnC, gbC, gnL, gbL, gnF, gbF, gnQ, gbQ, gE, gtp, glf, gtr, glh, gov) (mW, mC, mL, mR, mQ, mE, mtb, mnC, mnL, mnR, mov, mnQ, mwr, mwl, mft, mth, mpl) → jw p l e room_1 s m #[Value.ref b] below meth c 7 D (fun q : Nat => s.heap.size ≤ q) (30 + j2) (33300 + 6 * j2) (lw_Z below #[Value.ref b] s) (lww a k am km qo ko gM gnC gbC gnL gbL gnF gbF gnQ gbQ gE gtp glf gtr glh gov mW mC mL mR mQ mE mtb mnC mnL mnR mov mnQ mwr mwl mft mth mpl out) [(0, .ref b), (1, .ref (a 0)), (2, .ref (am 0)), (3, .ref qo), (4, .int v4)] 23 []) :
    jw p l e room_1 s m #[Value.ref b] below meth c 7 D (fun q : Nat => s.heap.size ≤ q) (30 + j) (33300 + 6 * j) (lw_Z below #[Value.ref b] s) (lww a k am km qo ko gM gnC gbC gnL gbL gnF gbF gnQ gbQ gE gtp glf gtr glh gov mW mC mL mR mQ mE mtb mnC mnL mnR mov mnQ mwr mwl mft mth mpl out) [(0, .ref b), (1, .ref (a 0)), (2, .ref (am 0)), (3, .ref qo), (4, .int v4)] 264 [] := by
  have hbA : ¬ (fun q : Nat => s.heap.size ≤ q) b := Nat.not_le.mpr hbl
  have hv1 : vp_in (v4 + 1) L := by rw [hv]; exact lawin hj6 (by omega) (k := 1) rfl (by omega)
  have hv2 : vp_in (v4 + 2) L := by rw [hv]; exact lawin hj6 (by omega) (k := 2) rfl (by omega)
  have hv3 : vp_in (v4 + 3) L := by rw [hv]; exact lawin hj6 (by omega) (k := 3) rfl (by omega)
  have hv4 : vp_in (v4 + 4) L := by rw [hv]; exact lawin hj6 (by omega) (k := 4) rfl (by omega)
  have hv5 : vp_in (v4 + 5) L := by rw [hv]; exact lawin hj6 (by omega) (k := 5) rfl (by omega)
  have hv6 : v4 + 6 = nI (6 * (j + 1)) := by rw [hv]; exact lawsix j
  refine j_aload_n (pc := 264) C 1 dL_law_264 rfl rfl ?_
  refine j_aload_n (pc := 265) C 0 dL_law_265 rfl rfl ?_
  refine j_iload (pc := 266) C 4 dL_law_266 rfl ?_
  refine j_iconst (pc := 268) (v := 1) C dL_law_268 (by decide) ?_
  refine j_iadd (pc := 269) C dL_law_269 ?_
  refine j_sld (pc := 270) C hX hbl hbA hv1 dL_law_270 ?_
  refine j_aload_n (pc := 271) C 0 dL_law_271 rfl rfl ?_
  refine j_iload (pc := 272) C 4 dL_law_272 rfl ?_
  refine j_iconst (pc := 274) (v := 2) C dL_law_274 (by decide) ?_
  refine j_iadd (pc := 275) C dL_law_275 ?_
  refine j_sld (pc := 276) C hX hbl hbA hv2 dL_law_276 ?_
  refine j_aload_n (pc := 277) C 0 dL_law_277 rfl rfl ?_
  refine j_iload (pc := 278) C 4 dL_law_278 rfl ?_
  refine j_iconst (pc := 280) (v := 3) C dL_law_280 (by decide) ?_
  refine j_iadd (pc := 281) C dL_law_281 ?_
  refine j_sld (pc := 282) C hX hbl hbA hv3 dL_law_282 ?_
  refine j_aload_n (pc := 283) C 0 dL_law_283 rfl rfl ?_
  refine j_iload (pc := 284) C 4 dL_law_284 rfl ?_
  refine j_iconst (pc := 286) (v := 4) C dL_law_286 (by decide) ?_
  refine j_iadd (pc := 287) C dL_law_287 ?_
  refine j_sld (pc := 288) C hX hbl hbA hv4 dL_law_288 ?_
  obtain ⟨rw1, rmw1, w1gM, w1mW, w1mth, hw1, hmw1, hew1, hIw1⟩ := S_fill j _ _ _ _ _ _ _ _ _ _ _ _ _ _ _ _ _ _ _ _ _ _ _ _ _ _ _ _ _ _ _ _ (xs (v4 + 1).toNatClampNeg) (xs (v4 + 2).toNatClampNeg) (xs (v4 + 3).toNatClampNeg) (xs (v4 + 4).toNatClampNeg) hjL hI
  refine j_callVi (pc := 289) (As := [.int (xs (v4 + 1).toNatClampNeg), .int (xs (v4 + 2).toNatClampNeg), .int (xs (v4 + 3).toNatClampNeg), .int (xs (v4 + 4).toNatClampNeg)]) (rest := []) (ws' := (lww a k am km qo ko w1gM gnC gbC gnL gbL gnF gbF gnQ gbQ gE gtp glf gtr glh gov mW mC mL mR mQ mE mtb mnC mnL mnR mov mnQ mwr mwl mft mth mpl out)) C K (ci := 2) (q0 := 0) rfl rfl rfl (ctX2_fill l D a k _ _ _ _ _ _ _ _ _ _ _ _ _ _ _ _ _ _ _ _ _ hw1) gL_law_X2_fill rfl rfl rfl hdyX2_fill ⟨Nat.le_of_ble_eq_true rfl, Nat.le_of_ble_eq_true rfl⟩ (List.range 19) rfl (by decide) (jspA rfl rfl) [0, 1, 2, 3, 4, 5] rfl rfl (Nat.le_of_ble_eq_true rfl) dL_law_289 ⟨by show 30 + j ≤ 600002; omega, by show 33300 + 6 * j ≤ 7302232; omega⟩ ?_
  refine j_aload_n (pc := 292) C 2 dL_law_292 rfl rfl ?_
  refine j_aload_n (pc := 293) C 0 dL_law_293 rfl rfl ?_
  refine j_iload (pc := 294) C 4 dL_law_294 rfl ?_
  refine j_iconst (pc := 296) (v := 1) C dL_law_296 (by decide) ?_
  refine j_iadd (pc := 297) C dL_law_297 ?_
  refine j_sld (pc := 298) C hX hbl hbA hv1 dL_law_298 ?_
  refine j_aload_n (pc := 299) C 0 dL_law_299 rfl rfl ?_
  refine j_iload (pc := 300) C 4 dL_law_300 rfl ?_
  refine j_iconst (pc := 302) (v := 2) C dL_law_302 (by decide) ?_
  refine j_iadd (pc := 303) C dL_law_303 ?_
  refine j_sld (pc := 304) C hX hbl hbA hv2 dL_law_304 ?_
  refine j_aload_n (pc := 305) C 0 dL_law_305 rfl rfl ?_
  refine j_iload (pc := 306) C 4 dL_law_306 rfl ?_
  refine j_iconst (pc := 308) (v := 3) C dL_law_308 (by decide) ?_
  refine j_iadd (pc := 309) C dL_law_309 ?_
  refine j_sld (pc := 310) C hX hbl hbA hv3 dL_law_310 ?_
  refine j_aload_n (pc := 311) C 0 dL_law_311 rfl rfl ?_
  refine j_iload (pc := 312) C 4 dL_law_312 rfl ?_
  refine j_iconst (pc := 314) (v := 4) C dL_law_314 (by decide) ?_
  refine j_iadd (pc := 315) C dL_law_315 ?_
  refine j_sld (pc := 316) C hX hbl hbA hv4 dL_law_316 ?_
  refine j_callVi (pc := 317) (As := [.int (xs (v4 + 1).toNatClampNeg), .int (xs (v4 + 2).toNatClampNeg), .int (xs (v4 + 3).toNatClampNeg), .int (xs (v4 + 4).toNatClampNeg)]) (rest := [.int rw1]) (ws' := (lww a k am km qo ko w1gM gnC gbC gnL gbL gnF gbF gnQ gbQ gE gtp glf gtr glh gov w1mW mC mL mR mQ mE mtb mnC mnL mnR mov mnQ mwr mwl mft w1mth mpl out)) C K (ci := 3) (q0 := 0) rfl rfl rfl (ctX3_fill l D am km _ _ _ _ _ _ _ _ _ _ _ _ _ _ _ _ _ _ _ _ _ _ _ _ hmw1) gL_law_X3_fill rfl rfl rfl hdyX3_fill ⟨Nat.le_of_ble_eq_true rfl, Nat.le_of_ble_eq_true rfl⟩ ((List.range 7).map (fun i => 19 + i)) rfl (by decide) (jspB rfl rfl rfl) [6, 7, 8, 9, 10, 11] rfl rfl (Nat.le_of_ble_eq_true rfl) dL_law_317 ⟨by show 30 + j ≤ 600002; omega, by show 33300 + 6 * j ≤ 7302232; omega⟩ ?_
  refine j_icmp_eq (pc := 320) (tgt := 1030) C dL_law_320 (by decide) (fun _ => ?_) (fun h => absurd hew1 h)
  refine j_iinc (pc := 1030) (v := (v4 + 6)) (lv' := [(4, .int (v4 + 6)), (0, .ref b), (1, .ref (a 0)), (2, .ref (am 0)), (3, .ref qo)]) C 4 dL_law_1030 rfl rfl (by decide) rfl ?_
  refine j_goto (pc := 1033) (tgt := 23) C dL_law_1033 (by decide) ?_
  refine j_widen (k := 30 + (j + 1)) (n := 33300 + 6 * (j + 1)) (by omega) (by omega) ?_
  exact j_lv [1, 2, 3, 4, 0] rfl (ih (j + 1) _ _ _ _ _ _ _ _ _ _ _ _ _ _ _ _ _ _ _ _ _ _ _ _ _ _ _ _ _ _ _ _ _ _ (by omega) hv6 hIw1)
set_option maxHeartbeats 4000000 in
set_option maxRecDepth 100000 in
theorem lawc_table {p : Program} {l : Launch} (hlt : l.stackTraces = false) {e : Env} {s : State} {m : MethodId} {below : List Frame} {meth : Method} {c : Code} {D : va_G} {b L : Nat} {xs : Nat → Int32} (hL : L ≤ 6) (C : jc p s m #[Value.ref b] c code 7 RL wsL_law (fun q : Nat => s.heap.size ≤ q)) (hr : meth.sig.returnType = ret) (hlk : meth.locks = false) (hX : va_X b L xs s s.heap) (hbl : b < s.heap.size) (hxw : xw s) (hxz : xz (fun q : Nat => s.heap.size ≤ q) s s.heap) {I : Nat → GS → MS → Prop} (S_table : sm_table I 1) (a : Nat → Nat) (k : Nat → ClassId) (am : Nat → Nat) (km : Nat → ClassId) (qo : Nat) (ko : ClassId) (K : jk D (ltt k km ko) s) (j : Nat) (hjL : j < 1) (hj6 : 6 * j + 6 ≤ L) (v4 : Int32) (hv : v4 = nI (6 * j)) (gM : Nat → Int32) (gnC : Int32) (gbC : Nat → Int32) (gnL : Int32) (gbL : Nat → Int32) (gnF : Int32) (gbF : Nat → Int32) (gnQ : Int32) (gbQ : Nat → Int32) (gE : Nat → Nat → Int32) (gtp : Int32) (glf : Int32) (gtr : Int32) (glh : Int32) (gov : Int32) (mW : Nat → Int32) (mC : Nat → Int32) (mL : Nat → Int32) (mR : Nat → Int32) (mQ : Nat → Int32) (mE : Nat → Int32) (mtb : Int32) (mnC : Int32) (mnL : Int32) (mnR : Int32) (mov : Int32) (mnQ : Int32) (mwr : Int32) (mwl : Int32) (mft : Int32) (mth : Int32) (mpl : Int32) (out : Nat → Int64) (hI : I j (gM, gnC, gbC, gnL, gbL, gnF, gbF, gnQ, gbQ, gE, gtp, glf, gtr, glh, gov) (mW, mC, mL, mR, mQ, mE, mtb, mnC, mnL, mnR, mov, mnQ, mwr, mwl, mft, mth, mpl))
    (ih : ∀ (j2 : Nat) (gM : Nat → Int32) (gnC : Int32) (gbC : Nat → Int32) (gnL : Int32) (gbL : Nat → Int32) (gnF : Int32) (gbF : Nat → Int32) (gnQ : Int32) (gbQ : Nat → Int32) (gE : Nat → Nat → Int32) (gtp : Int32) (glf : Int32) (gtr : Int32) (glh : Int32) (gov : Int32) (mW : Nat → Int32) (mC : Nat → Int32) (mL : Nat → Int32) (mR : Nat → Int32) (mQ : Nat → Int32) (mE : Nat → Int32) (mtb : Int32) (mnC : Int32) (mnL : Int32) (mnR : Int32) (mov : Int32) (mnQ : Int32) (mwr : Int32) (mwl : Int32) (mft : Int32) (mth : Int32) (mpl : Int32) (out : Nat → Int64) (v4 : Int32), j2 = j + 1 → v4 = nI (6 * j2) → I j2 (gM, gnC, gbC, gnL, gbL, gnF, gbF, gnQ, gbQ, gE, gtp, glf, gtr, glh, gov) (mW, mC, mL, mR, mQ, mE, mtb, mnC, mnL, mnR, mov, mnQ, mwr, mwl, mft, mth, mpl) → jw p l e room_1 s m #[Value.ref b] below meth c 7 D (fun q : Nat => s.heap.size ≤ q) (30 + j2) (33300 + 6 * j2) (lw_Z below #[Value.ref b] s) (lww a k am km qo ko gM gnC gbC gnL gbL gnF gbF gnQ gbQ gE gtp glf gtr glh gov mW mC mL mR mQ mE mtb mnC mnL mnR mov mnQ mwr mwl mft mth mpl out) [(0, .ref b), (1, .ref (a 0)), (2, .ref (am 0)), (3, .ref qo), (4, .int v4)] 23 []) :
    jw p l e room_1 s m #[Value.ref b] below meth c 7 D (fun q : Nat => s.heap.size ≤ q) (30 + j) (33300 + 6 * j) (lw_Z below #[Value.ref b] s) (lww a k am km qo ko gM gnC gbC gnL gbL gnF gbF gnQ gbQ gE gtp glf gtr glh gov mW mC mL mR mQ mE mtb mnC mnL mnR mov mnQ mwr mwl mft mth mpl out) [(0, .ref b), (1, .ref (a 0)), (2, .ref (am 0)), (3, .ref qo), (4, .int v4)] 325 [] := by
  have hbA : ¬ (fun q : Nat => s.heap.size ≤ q) b := Nat.not_le.mpr hbl
  have hv1 : vp_in (v4 + 1) L := by rw [hv]; exact lawin hj6 (by omega) (k := 1) rfl (by omega)
  have hv2 : vp_in (v4 + 2) L := by rw [hv]; exact lawin hj6 (by omega) (k := 2) rfl (by omega)
  have hv3 : vp_in (v4 + 3) L := by rw [hv]; exact lawin hj6 (by omega) (k := 3) rfl (by omega)
  have hv4 : vp_in (v4 + 4) L := by rw [hv]; exact lawin hj6 (by omega) (k := 4) rfl (by omega)
  have hv5 : vp_in (v4 + 5) L := by rw [hv]; exact lawin hj6 (by omega) (k := 5) rfl (by omega)
  have hv6 : v4 + 6 = nI (6 * (j + 1)) := by rw [hv]; exact lawsix j
  refine j_aload_n (pc := 325) C 1 dL_law_325 rfl rfl ?_
  refine j_aload_n (pc := 326) C 0 dL_law_326 rfl rfl ?_
  refine j_iload (pc := 327) C 4 dL_law_327 rfl ?_
  refine j_iconst (pc := 329) (v := 1) C dL_law_329 (by decide) ?_
  refine j_iadd (pc := 330) C dL_law_330 ?_
  refine j_sld (pc := 331) C hX hbl hbA hv1 dL_law_331 ?_
  obtain ⟨rw1, rmw1, w1gtp, w1mtb, w1mth, hw1, hmw1, hew1, hIw1⟩ := S_table j _ _ _ _ _ _ _ _ _ _ _ _ _ _ _ _ _ _ _ _ _ _ _ _ _ _ _ _ _ _ _ _ (xs (v4 + 1).toNatClampNeg) hjL hI
  refine j_callVi (pc := 332) (As := [.int (xs (v4 + 1).toNatClampNeg)]) (rest := []) (ws' := (lww a k am km qo ko gM gnC gbC gnL gbL gnF gbF gnQ gbQ gE w1gtp glf gtr glh gov mW mC mL mR mQ mE mtb mnC mnL mnR mov mnQ mwr mwl mft mth mpl out)) C K (ci := 2) (q0 := 0) rfl rfl rfl (ctX2_table l D a k _ _ _ _ _ _ _ _ _ _ _ _ _ _ _ _ _ _ hw1) gL_law_X2_table rfl rfl rfl hdyX2_table ⟨Nat.le_of_ble_eq_true rfl, Nat.le_of_ble_eq_true rfl⟩ (List.range 19) rfl (by decide) (jspA rfl rfl) [0, 1, 2, 3, 4, 5] rfl rfl (Nat.le_of_ble_eq_true rfl) dL_law_332 ⟨by show 30 + j ≤ 600002; omega, by show 33300 + 6 * j ≤ 7302232; omega⟩ ?_
  refine j_aload_n (pc := 335) C 2 dL_law_335 rfl rfl ?_
  refine j_aload_n (pc := 336) C 0 dL_law_336 rfl rfl ?_
  refine j_iload (pc := 337) C 4 dL_law_337 rfl ?_
  refine j_iconst (pc := 339) (v := 1) C dL_law_339 (by decide) ?_
  refine j_iadd (pc := 340) C dL_law_340 ?_
  refine j_sld (pc := 341) C hX hbl hbA hv1 dL_law_341 ?_
  refine j_callVi (pc := 342) (As := [.int (xs (v4 + 1).toNatClampNeg)]) (rest := [.int rw1]) (ws' := (lww a k am km qo ko gM gnC gbC gnL gbL gnF gbF gnQ gbQ gE w1gtp glf gtr glh gov mW mC mL mR mQ mE w1mtb mnC mnL mnR mov mnQ mwr mwl mft w1mth mpl out)) C K (ci := 3) (q0 := 0) rfl rfl rfl (ctX3_table l D am km _ _ _ _ _ _ _ _ _ _ _ _ _ _ _ _ _ _ _ _ _ hmw1) gL_law_X3_table rfl rfl rfl hdyX3_table ⟨Nat.le_of_ble_eq_true rfl, Nat.le_of_ble_eq_true rfl⟩ ((List.range 7).map (fun i => 19 + i)) rfl (by decide) (jspB rfl rfl rfl) [6, 7, 8, 9, 10, 11] rfl rfl (Nat.le_of_ble_eq_true rfl) dL_law_342 ⟨by show 30 + j ≤ 600002; omega, by show 33300 + 6 * j ≤ 7302232; omega⟩ ?_
  refine j_icmp_eq (pc := 345) (tgt := 1030) C dL_law_345 (by decide) (fun _ => ?_) (fun h => absurd hew1 h)
  refine j_iinc (pc := 1030) (v := (v4 + 6)) (lv' := [(4, .int (v4 + 6)), (0, .ref b), (1, .ref (a 0)), (2, .ref (am 0)), (3, .ref qo)]) C 4 dL_law_1030 rfl rfl (by decide) rfl ?_
  refine j_goto (pc := 1033) (tgt := 23) C dL_law_1033 (by decide) ?_
  refine j_widen (k := 30 + (j + 1)) (n := 33300 + 6 * (j + 1)) (by omega) (by omega) ?_
  exact j_lv [1, 2, 3, 4, 0] rfl (ih (j + 1) _ _ _ _ _ _ _ _ _ _ _ _ _ _ _ _ _ _ _ _ _ _ _ _ _ _ _ _ _ _ _ _ _ _ (by omega) hv6 hIw1)
set_option maxHeartbeats 4000000 in
set_option maxRecDepth 100000 in
theorem lawc_context {p : Program} {l : Launch} (hlt : l.stackTraces = false) {e : Env} {s : State} {m : MethodId} {below : List Frame} {meth : Method} {c : Code} {D : va_G} {b L : Nat} {xs : Nat → Int32} (hL : L ≤ 6) (C : jc p s m #[Value.ref b] c code 7 RL wsL_law (fun q : Nat => s.heap.size ≤ q)) (hr : meth.sig.returnType = ret) (hlk : meth.locks = false) (hX : va_X b L xs s s.heap) (hbl : b < s.heap.size) (hxw : xw s) (hxz : xz (fun q : Nat => s.heap.size ≤ q) s s.heap) {I : Nat → GS → MS → Prop} (S_context : sm_context I 1) (a : Nat → Nat) (k : Nat → ClassId) (am : Nat → Nat) (km : Nat → ClassId) (qo : Nat) (ko : ClassId) (K : jk D (ltt k km ko) s) (j : Nat) (hjL : j < 1) (hj6 : 6 * j + 6 ≤ L) (v4 : Int32) (hv : v4 = nI (6 * j)) (gM : Nat → Int32) (gnC : Int32) (gbC : Nat → Int32) (gnL : Int32) (gbL : Nat → Int32) (gnF : Int32) (gbF : Nat → Int32) (gnQ : Int32) (gbQ : Nat → Int32) (gE : Nat → Nat → Int32) (gtp : Int32) (glf : Int32) (gtr : Int32) (glh : Int32) (gov : Int32) (mW : Nat → Int32) (mC : Nat → Int32) (mL : Nat → Int32) (mR : Nat → Int32) (mQ : Nat → Int32) (mE : Nat → Int32) (mtb : Int32) (mnC : Int32) (mnL : Int32) (mnR : Int32) (mov : Int32) (mnQ : Int32) (mwr : Int32) (mwl : Int32) (mft : Int32) (mth : Int32) (mpl : Int32) (out : Nat → Int64) (hI : I j (gM, gnC, gbC, gnL, gbL, gnF, gbF, gnQ, gbQ, gE, gtp, glf, gtr, glh, gov) (mW, mC, mL, mR, mQ, mE, mtb, mnC, mnL, mnR, mov, mnQ, mwr, mwl, mft, mth, mpl))
    (ih : ∀ (j2 : Nat) (gM : Nat → Int32) (gnC : Int32) (gbC : Nat → Int32) (gnL : Int32) (gbL : Nat → Int32) (gnF : Int32) (gbF : Nat → Int32) (gnQ : Int32) (gbQ : Nat → Int32) (gE : Nat → Nat → Int32) (gtp : Int32) (glf : Int32) (gtr : Int32) (glh : Int32) (gov : Int32) (mW : Nat → Int32) (mC : Nat → Int32) (mL : Nat → Int32) (mR : Nat → Int32) (mQ : Nat → Int32) (mE : Nat → Int32) (mtb : Int32) (mnC : Int32) (mnL : Int32) (mnR : Int32) (mov : Int32) (mnQ : Int32) (mwr : Int32) (mwl : Int32) (mft : Int32) (mth : Int32) (mpl : Int32) (out : Nat → Int64) (v4 : Int32), j2 = j + 1 → v4 = nI (6 * j2) → I j2 (gM, gnC, gbC, gnL, gbL, gnF, gbF, gnQ, gbQ, gE, gtp, glf, gtr, glh, gov) (mW, mC, mL, mR, mQ, mE, mtb, mnC, mnL, mnR, mov, mnQ, mwr, mwl, mft, mth, mpl) → jw p l e room_1 s m #[Value.ref b] below meth c 7 D (fun q : Nat => s.heap.size ≤ q) (30 + j2) (33300 + 6 * j2) (lw_Z below #[Value.ref b] s) (lww a k am km qo ko gM gnC gbC gnL gbL gnF gbF gnQ gbQ gE gtp glf gtr glh gov mW mC mL mR mQ mE mtb mnC mnL mnR mov mnQ mwr mwl mft mth mpl out) [(0, .ref b), (1, .ref (a 0)), (2, .ref (am 0)), (3, .ref qo), (4, .int v4)] 23 []) :
    jw p l e room_1 s m #[Value.ref b] below meth c 7 D (fun q : Nat => s.heap.size ≤ q) (30 + j) (33300 + 6 * j) (lw_Z below #[Value.ref b] s) (lww a k am km qo ko gM gnC gbC gnL gbL gnF gbF gnQ gbQ gE gtp glf gtr glh gov mW mC mL mR mQ mE mtb mnC mnL mnR mov mnQ mwr mwl mft mth mpl out) [(0, .ref b), (1, .ref (a 0)), (2, .ref (am 0)), (3, .ref qo), (4, .int v4)] 350 [] := by
  have hbA : ¬ (fun q : Nat => s.heap.size ≤ q) b := Nat.not_le.mpr hbl
  have hv1 : vp_in (v4 + 1) L := by rw [hv]; exact lawin hj6 (by omega) (k := 1) rfl (by omega)
  have hv2 : vp_in (v4 + 2) L := by rw [hv]; exact lawin hj6 (by omega) (k := 2) rfl (by omega)
  have hv3 : vp_in (v4 + 3) L := by rw [hv]; exact lawin hj6 (by omega) (k := 3) rfl (by omega)
  have hv4 : vp_in (v4 + 4) L := by rw [hv]; exact lawin hj6 (by omega) (k := 4) rfl (by omega)
  have hv5 : vp_in (v4 + 5) L := by rw [hv]; exact lawin hj6 (by omega) (k := 5) rfl (by omega)
  have hv6 : v4 + 6 = nI (6 * (j + 1)) := by rw [hv]; exact lawsix j
  refine j_aload_n (pc := 350) C 1 dL_law_350 rfl rfl ?_
  refine j_aload_n (pc := 351) C 0 dL_law_351 rfl rfl ?_
  refine j_iload (pc := 352) C 4 dL_law_352 rfl ?_
  refine j_iconst (pc := 354) (v := 1) C dL_law_354 (by decide) ?_
  refine j_iadd (pc := 355) C dL_law_355 ?_
  refine j_sld (pc := 356) C hX hbl hbA hv1 dL_law_356 ?_
  refine j_aload_n (pc := 357) C 0 dL_law_357 rfl rfl ?_
  refine j_iload (pc := 358) C 4 dL_law_358 rfl ?_
  refine j_iconst (pc := 360) (v := 2) C dL_law_360 (by decide) ?_
  refine j_iadd (pc := 361) C dL_law_361 ?_
  refine j_sld (pc := 362) C hX hbl hbA hv2 dL_law_362 ?_
  refine j_if_eq (pc := 363) (tgt := 370) C dL_law_363 (by decide) (fun c1 => ?_) (fun c1 => ?_)
  · refine j_iconst (pc := 370) (v := 0) C dL_law_370 (by decide) ?_
    refine j_aload_n (pc := 371) C 0 dL_law_371 rfl rfl ?_
    refine j_iload (pc := 372) C 4 dL_law_372 rfl ?_
    refine j_iconst (pc := 374) (v := 3) C dL_law_374 (by decide) ?_
    refine j_iadd (pc := 375) C dL_law_375 ?_
    refine j_sld (pc := 376) C hX hbl hbA hv3 dL_law_376 ?_
    refine j_aload_n (pc := 377) C 0 dL_law_377 rfl rfl ?_
    refine j_iload (pc := 378) C 4 dL_law_378 rfl ?_
    refine j_iconst (pc := 380) (v := 4) C dL_law_380 (by decide) ?_
    refine j_iadd (pc := 381) C dL_law_381 ?_
    refine j_sld (pc := 382) C hX hbl hbA hv4 dL_law_382 ?_
    obtain ⟨rw2, rmw2, w2gM, w2mW, w2mth, hw2, hmw2, hew2, hIw2⟩ := S_context j _ _ _ _ _ _ _ _ _ _ _ _ _ _ _ _ _ _ _ _ _ _ _ _ _ _ _ _ _ _ _ _ (xs (v4 + 1).toNatClampNeg) 0 (xs (v4 + 3).toNatClampNeg) (xs (v4 + 4).toNatClampNeg) hjL hI
    refine j_callVi (pc := 383) (As := [.int (xs (v4 + 1).toNatClampNeg), .int 0, .int (xs (v4 + 3).toNatClampNeg), .int (xs (v4 + 4).toNatClampNeg)]) (rest := []) (ws' := (lww a k am km qo ko w2gM gnC gbC gnL gbL gnF gbF gnQ gbQ gE gtp glf gtr glh gov mW mC mL mR mQ mE mtb mnC mnL mnR mov mnQ mwr mwl mft mth mpl out)) C K (ci := 2) (q0 := 0) rfl rfl rfl (ctX2_context l D a k _ _ _ _ _ _ _ _ _ _ _ _ _ _ _ _ _ _ _ _ _ hw2) gL_law_X2_context rfl rfl rfl hdyX2_context ⟨Nat.le_of_ble_eq_true rfl, Nat.le_of_ble_eq_true rfl⟩ (List.range 19) rfl (by decide) (jspA rfl rfl) [0, 1, 2, 3, 4, 5] rfl rfl (Nat.le_of_ble_eq_true rfl) dL_law_383 ⟨by show 30 + j ≤ 600002; omega, by show 33300 + 6 * j ≤ 7302232; omega⟩ ?_
    refine j_aload_n (pc := 386) C 2 dL_law_386 rfl rfl ?_
    refine j_aload_n (pc := 387) C 0 dL_law_387 rfl rfl ?_
    refine j_iload (pc := 388) C 4 dL_law_388 rfl ?_
    refine j_iconst (pc := 390) (v := 1) C dL_law_390 (by decide) ?_
    refine j_iadd (pc := 391) C dL_law_391 ?_
    refine j_sld (pc := 392) C hX hbl hbA hv1 dL_law_392 ?_
    refine j_aload_n (pc := 393) C 0 dL_law_393 rfl rfl ?_
    refine j_iload (pc := 394) C 4 dL_law_394 rfl ?_
    refine j_iconst (pc := 396) (v := 2) C dL_law_396 (by decide) ?_
    refine j_iadd (pc := 397) C dL_law_397 ?_
    refine j_sld (pc := 398) C hX hbl hbA hv2 dL_law_398 ?_
    refine j_if_eq (pc := 399) (tgt := 406) C dL_law_399 (by decide) (fun _ => ?_) (fun h => absurd c1 h)
    refine j_iconst (pc := 406) (v := 0) C dL_law_406 (by decide) ?_
    refine j_aload_n (pc := 407) C 0 dL_law_407 rfl rfl ?_
    refine j_iload (pc := 408) C 4 dL_law_408 rfl ?_
    refine j_iconst (pc := 410) (v := 3) C dL_law_410 (by decide) ?_
    refine j_iadd (pc := 411) C dL_law_411 ?_
    refine j_sld (pc := 412) C hX hbl hbA hv3 dL_law_412 ?_
    refine j_aload_n (pc := 413) C 0 dL_law_413 rfl rfl ?_
    refine j_iload (pc := 414) C 4 dL_law_414 rfl ?_
    refine j_iconst (pc := 416) (v := 4) C dL_law_416 (by decide) ?_
    refine j_iadd (pc := 417) C dL_law_417 ?_
    refine j_sld (pc := 418) C hX hbl hbA hv4 dL_law_418 ?_
    refine j_callVi (pc := 419) (As := [.int (xs (v4 + 1).toNatClampNeg), .int 0, .int (xs (v4 + 3).toNatClampNeg), .int (xs (v4 + 4).toNatClampNeg)]) (rest := [.int rw2]) (ws' := (lww a k am km qo ko w2gM gnC gbC gnL gbL gnF gbF gnQ gbQ gE gtp glf gtr glh gov w2mW mC mL mR mQ mE mtb mnC mnL mnR mov mnQ mwr mwl mft w2mth mpl out)) C K (ci := 3) (q0 := 0) rfl rfl rfl (ctX3_context l D am km _ _ _ _ _ _ _ _ _ _ _ _ _ _ _ _ _ _ _ _ _ _ _ _ hmw2) gL_law_X3_context rfl rfl rfl hdyX3_context ⟨Nat.le_of_ble_eq_true rfl, Nat.le_of_ble_eq_true rfl⟩ ((List.range 7).map (fun i => 19 + i)) rfl (by decide) (jspB rfl rfl rfl) [6, 7, 8, 9, 10, 11] rfl rfl (Nat.le_of_ble_eq_true rfl) dL_law_419 ⟨by show 30 + j ≤ 600002; omega, by show 33300 + 6 * j ≤ 7302232; omega⟩ ?_
    refine j_icmp_eq (pc := 422) (tgt := 1030) C dL_law_422 (by decide) (fun _ => ?_) (fun h => absurd hew2 h)
    refine j_iinc (pc := 1030) (v := (v4 + 6)) (lv' := [(4, .int (v4 + 6)), (0, .ref b), (1, .ref (a 0)), (2, .ref (am 0)), (3, .ref qo)]) C 4 dL_law_1030 rfl rfl (by decide) rfl ?_
    refine j_goto (pc := 1033) (tgt := 23) C dL_law_1033 (by decide) ?_
    refine j_widen (k := 30 + (j + 1)) (n := 33300 + 6 * (j + 1)) (by omega) (by omega) ?_
    exact j_lv [1, 2, 3, 4, 0] rfl (ih (j + 1) _ _ _ _ _ _ _ _ _ _ _ _ _ _ _ _ _ _ _ _ _ _ _ _ _ _ _ _ _ _ _ _ _ _ (by omega) hv6 hIw2)
  · refine j_iconst (pc := 366) (v := 1) C dL_law_366 (by decide) ?_
    refine j_goto (pc := 367) (tgt := 371) C dL_law_367 (by decide) ?_
    refine j_aload_n (pc := 371) C 0 dL_law_371 rfl rfl ?_
    refine j_iload (pc := 372) C 4 dL_law_372 rfl ?_
    refine j_iconst (pc := 374) (v := 3) C dL_law_374 (by decide) ?_
    refine j_iadd (pc := 375) C dL_law_375 ?_
    refine j_sld (pc := 376) C hX hbl hbA hv3 dL_law_376 ?_
    refine j_aload_n (pc := 377) C 0 dL_law_377 rfl rfl ?_
    refine j_iload (pc := 378) C 4 dL_law_378 rfl ?_
    refine j_iconst (pc := 380) (v := 4) C dL_law_380 (by decide) ?_
    refine j_iadd (pc := 381) C dL_law_381 ?_
    refine j_sld (pc := 382) C hX hbl hbA hv4 dL_law_382 ?_
    obtain ⟨rw3, rmw3, w3gM, w3mW, w3mth, hw3, hmw3, hew3, hIw3⟩ := S_context j _ _ _ _ _ _ _ _ _ _ _ _ _ _ _ _ _ _ _ _ _ _ _ _ _ _ _ _ _ _ _ _ (xs (v4 + 1).toNatClampNeg) 1 (xs (v4 + 3).toNatClampNeg) (xs (v4 + 4).toNatClampNeg) hjL hI
    refine j_callVi (pc := 383) (As := [.int (xs (v4 + 1).toNatClampNeg), .int 1, .int (xs (v4 + 3).toNatClampNeg), .int (xs (v4 + 4).toNatClampNeg)]) (rest := []) (ws' := (lww a k am km qo ko w3gM gnC gbC gnL gbL gnF gbF gnQ gbQ gE gtp glf gtr glh gov mW mC mL mR mQ mE mtb mnC mnL mnR mov mnQ mwr mwl mft mth mpl out)) C K (ci := 2) (q0 := 0) rfl rfl rfl (ctX2_context l D a k _ _ _ _ _ _ _ _ _ _ _ _ _ _ _ _ _ _ _ _ _ hw3) gL_law_X2_context rfl rfl rfl hdyX2_context ⟨Nat.le_of_ble_eq_true rfl, Nat.le_of_ble_eq_true rfl⟩ (List.range 19) rfl (by decide) (jspA rfl rfl) [0, 1, 2, 3, 4, 5] rfl rfl (Nat.le_of_ble_eq_true rfl) dL_law_383 ⟨by show 30 + j ≤ 600002; omega, by show 33300 + 6 * j ≤ 7302232; omega⟩ ?_
    refine j_aload_n (pc := 386) C 2 dL_law_386 rfl rfl ?_
    refine j_aload_n (pc := 387) C 0 dL_law_387 rfl rfl ?_
    refine j_iload (pc := 388) C 4 dL_law_388 rfl ?_
    refine j_iconst (pc := 390) (v := 1) C dL_law_390 (by decide) ?_
    refine j_iadd (pc := 391) C dL_law_391 ?_
    refine j_sld (pc := 392) C hX hbl hbA hv1 dL_law_392 ?_
    refine j_aload_n (pc := 393) C 0 dL_law_393 rfl rfl ?_
    refine j_iload (pc := 394) C 4 dL_law_394 rfl ?_
    refine j_iconst (pc := 396) (v := 2) C dL_law_396 (by decide) ?_
    refine j_iadd (pc := 397) C dL_law_397 ?_
    refine j_sld (pc := 398) C hX hbl hbA hv2 dL_law_398 ?_
    refine j_if_eq (pc := 399) (tgt := 406) C dL_law_399 (by decide) (fun h => absurd h c1) (fun _ => ?_)
    refine j_iconst (pc := 402) (v := 1) C dL_law_402 (by decide) ?_
    refine j_goto (pc := 403) (tgt := 407) C dL_law_403 (by decide) ?_
    refine j_aload_n (pc := 407) C 0 dL_law_407 rfl rfl ?_
    refine j_iload (pc := 408) C 4 dL_law_408 rfl ?_
    refine j_iconst (pc := 410) (v := 3) C dL_law_410 (by decide) ?_
    refine j_iadd (pc := 411) C dL_law_411 ?_
    refine j_sld (pc := 412) C hX hbl hbA hv3 dL_law_412 ?_
    refine j_aload_n (pc := 413) C 0 dL_law_413 rfl rfl ?_
    refine j_iload (pc := 414) C 4 dL_law_414 rfl ?_
    refine j_iconst (pc := 416) (v := 4) C dL_law_416 (by decide) ?_
    refine j_iadd (pc := 417) C dL_law_417 ?_
    refine j_sld (pc := 418) C hX hbl hbA hv4 dL_law_418 ?_
    refine j_callVi (pc := 419) (As := [.int (xs (v4 + 1).toNatClampNeg), .int 1, .int (xs (v4 + 3).toNatClampNeg), .int (xs (v4 + 4).toNatClampNeg)]) (rest := [.int rw3]) (ws' := (lww a k am km qo ko w3gM gnC gbC gnL gbL gnF gbF gnQ gbQ gE gtp glf gtr glh gov w3mW mC mL mR mQ mE mtb mnC mnL mnR mov mnQ mwr mwl mft w3mth mpl out)) C K (ci := 3) (q0 := 0) rfl rfl rfl (ctX3_context l D am km _ _ _ _ _ _ _ _ _ _ _ _ _ _ _ _ _ _ _ _ _ _ _ _ hmw3) gL_law_X3_context rfl rfl rfl hdyX3_context ⟨Nat.le_of_ble_eq_true rfl, Nat.le_of_ble_eq_true rfl⟩ ((List.range 7).map (fun i => 19 + i)) rfl (by decide) (jspB rfl rfl rfl) [6, 7, 8, 9, 10, 11] rfl rfl (Nat.le_of_ble_eq_true rfl) dL_law_419 ⟨by show 30 + j ≤ 600002; omega, by show 33300 + 6 * j ≤ 7302232; omega⟩ ?_
    refine j_icmp_eq (pc := 422) (tgt := 1030) C dL_law_422 (by decide) (fun _ => ?_) (fun h => absurd hew3 h)
    refine j_iinc (pc := 1030) (v := (v4 + 6)) (lv' := [(4, .int (v4 + 6)), (0, .ref b), (1, .ref (a 0)), (2, .ref (am 0)), (3, .ref qo)]) C 4 dL_law_1030 rfl rfl (by decide) rfl ?_
    refine j_goto (pc := 1033) (tgt := 23) C dL_law_1033 (by decide) ?_
    refine j_widen (k := 30 + (j + 1)) (n := 33300 + 6 * (j + 1)) (by omega) (by omega) ?_
    exact j_lv [1, 2, 3, 4, 0] rfl (ih (j + 1) _ _ _ _ _ _ _ _ _ _ _ _ _ _ _ _ _ _ _ _ _ _ _ _ _ _ _ _ _ _ _ _ _ _ (by omega) hv6 hIw3)
set_option maxHeartbeats 4000000 in
set_option maxRecDepth 100000 in
theorem lawc_enter {p : Program} {l : Launch} (hlt : l.stackTraces = false) {e : Env} {s : State} {m : MethodId} {below : List Frame} {meth : Method} {c : Code} {D : va_G} {b L : Nat} {xs : Nat → Int32} (hL : L ≤ 6) (C : jc p s m #[Value.ref b] c code 7 RL wsL_law (fun q : Nat => s.heap.size ≤ q)) (hr : meth.sig.returnType = ret) (hlk : meth.locks = false) (hX : va_X b L xs s s.heap) (hbl : b < s.heap.size) (hxw : xw s) (hxz : xz (fun q : Nat => s.heap.size ≤ q) s s.heap) {I : Nat → GS → MS → Prop} (S_enter : sm_enter I 1) (a : Nat → Nat) (k : Nat → ClassId) (am : Nat → Nat) (km : Nat → ClassId) (qo : Nat) (ko : ClassId) (K : jk D (ltt k km ko) s) (j : Nat) (hjL : j < 1) (hj6 : 6 * j + 6 ≤ L) (v4 : Int32) (hv : v4 = nI (6 * j)) (gM : Nat → Int32) (gnC : Int32) (gbC : Nat → Int32) (gnL : Int32) (gbL : Nat → Int32) (gnF : Int32) (gbF : Nat → Int32) (gnQ : Int32) (gbQ : Nat → Int32) (gE : Nat → Nat → Int32) (gtp : Int32) (glf : Int32) (gtr : Int32) (glh : Int32) (gov : Int32) (mW : Nat → Int32) (mC : Nat → Int32) (mL : Nat → Int32) (mR : Nat → Int32) (mQ : Nat → Int32) (mE : Nat → Int32) (mtb : Int32) (mnC : Int32) (mnL : Int32) (mnR : Int32) (mov : Int32) (mnQ : Int32) (mwr : Int32) (mwl : Int32) (mft : Int32) (mth : Int32) (mpl : Int32) (out : Nat → Int64) (hI : I j (gM, gnC, gbC, gnL, gbL, gnF, gbF, gnQ, gbQ, gE, gtp, glf, gtr, glh, gov) (mW, mC, mL, mR, mQ, mE, mtb, mnC, mnL, mnR, mov, mnQ, mwr, mwl, mft, mth, mpl))
    (ih : ∀ (j2 : Nat) (gM : Nat → Int32) (gnC : Int32) (gbC : Nat → Int32) (gnL : Int32) (gbL : Nat → Int32) (gnF : Int32) (gbF : Nat → Int32) (gnQ : Int32) (gbQ : Nat → Int32) (gE : Nat → Nat → Int32) (gtp : Int32) (glf : Int32) (gtr : Int32) (glh : Int32) (gov : Int32) (mW : Nat → Int32) (mC : Nat → Int32) (mL : Nat → Int32) (mR : Nat → Int32) (mQ : Nat → Int32) (mE : Nat → Int32) (mtb : Int32) (mnC : Int32) (mnL : Int32) (mnR : Int32) (mov : Int32) (mnQ : Int32) (mwr : Int32) (mwl : Int32) (mft : Int32) (mth : Int32) (mpl : Int32) (out : Nat → Int64) (v4 : Int32), j2 = j + 1 → v4 = nI (6 * j2) → I j2 (gM, gnC, gbC, gnL, gbL, gnF, gbF, gnQ, gbQ, gE, gtp, glf, gtr, glh, gov) (mW, mC, mL, mR, mQ, mE, mtb, mnC, mnL, mnR, mov, mnQ, mwr, mwl, mft, mth, mpl) → jw p l e room_1 s m #[Value.ref b] below meth c 7 D (fun q : Nat => s.heap.size ≤ q) (30 + j2) (33300 + 6 * j2) (lw_Z below #[Value.ref b] s) (lww a k am km qo ko gM gnC gbC gnL gbL gnF gbF gnQ gbQ gE gtp glf gtr glh gov mW mC mL mR mQ mE mtb mnC mnL mnR mov mnQ mwr mwl mft mth mpl out) [(0, .ref b), (1, .ref (a 0)), (2, .ref (am 0)), (3, .ref qo), (4, .int v4)] 23 []) :
    jw p l e room_1 s m #[Value.ref b] below meth c 7 D (fun q : Nat => s.heap.size ≤ q) (30 + j) (33300 + 6 * j) (lw_Z below #[Value.ref b] s) (lww a k am km qo ko gM gnC gbC gnL gbL gnF gbF gnQ gbQ gE gtp glf gtr glh gov mW mC mL mR mQ mE mtb mnC mnL mnR mov mnQ mwr mwl mft mth mpl out) [(0, .ref b), (1, .ref (a 0)), (2, .ref (am 0)), (3, .ref qo), (4, .int v4)] 427 [] := by
  have hbA : ¬ (fun q : Nat => s.heap.size ≤ q) b := Nat.not_le.mpr hbl
  have hv1 : vp_in (v4 + 1) L := by rw [hv]; exact lawin hj6 (by omega) (k := 1) rfl (by omega)
  have hv2 : vp_in (v4 + 2) L := by rw [hv]; exact lawin hj6 (by omega) (k := 2) rfl (by omega)
  have hv3 : vp_in (v4 + 3) L := by rw [hv]; exact lawin hj6 (by omega) (k := 3) rfl (by omega)
  have hv4 : vp_in (v4 + 4) L := by rw [hv]; exact lawin hj6 (by omega) (k := 4) rfl (by omega)
  have hv5 : vp_in (v4 + 5) L := by rw [hv]; exact lawin hj6 (by omega) (k := 5) rfl (by omega)
  have hv6 : v4 + 6 = nI (6 * (j + 1)) := by rw [hv]; exact lawsix j
  refine j_aload_n (pc := 427) C 1 dL_law_427 rfl rfl ?_
  refine j_aload_n (pc := 428) C 0 dL_law_428 rfl rfl ?_
  refine j_iload (pc := 429) C 4 dL_law_429 rfl ?_
  refine j_iconst (pc := 431) (v := 1) C dL_law_431 (by decide) ?_
  refine j_iadd (pc := 432) C dL_law_432 ?_
  refine j_sld (pc := 433) C hX hbl hbA hv1 dL_law_433 ?_
  refine j_aload_n (pc := 434) C 0 dL_law_434 rfl rfl ?_
  refine j_iload (pc := 435) C 4 dL_law_435 rfl ?_
  refine j_iconst (pc := 437) (v := 2) C dL_law_437 (by decide) ?_
  refine j_iadd (pc := 438) C dL_law_438 ?_
  refine j_sld (pc := 439) C hX hbl hbA hv2 dL_law_439 ?_
  refine j_aload_n (pc := 440) C 0 dL_law_440 rfl rfl ?_
  refine j_iload (pc := 441) C 4 dL_law_441 rfl ?_
  refine j_iconst (pc := 443) (v := 3) C dL_law_443 (by decide) ?_
  refine j_iadd (pc := 444) C dL_law_444 ?_
  refine j_sld (pc := 445) C hX hbl hbA hv3 dL_law_445 ?_
  refine j_aload_n (pc := 446) C 0 dL_law_446 rfl rfl ?_
  refine j_iload (pc := 447) C 4 dL_law_447 rfl ?_
  refine j_iconst (pc := 449) (v := 4) C dL_law_449 (by decide) ?_
  refine j_iadd (pc := 450) C dL_law_450 ?_
  refine j_sld (pc := 451) C hX hbl hbA hv4 dL_law_451 ?_
  refine j_if_eq (pc := 452) (tgt := 459) C dL_law_452 (by decide) (fun c1 => ?_) (fun c1 => ?_)
  · refine j_iconst (pc := 459) (v := 0) C dL_law_459 (by decide) ?_
    refine j_aload_n (pc := 460) C 0 dL_law_460 rfl rfl ?_
    refine j_iload (pc := 461) C 4 dL_law_461 rfl ?_
    refine j_iconst (pc := 463) (v := 5) C dL_law_463 (by decide) ?_
    refine j_iadd (pc := 464) C dL_law_464 ?_
    refine j_sld (pc := 465) C hX hbl hbA hv5 dL_law_465 ?_
    obtain ⟨rw2, rmw2, w2gM, w2mW, w2mth, hw2, hmw2, hew2, hIw2⟩ := S_enter j _ _ _ _ _ _ _ _ _ _ _ _ _ _ _ _ _ _ _ _ _ _ _ _ _ _ _ _ _ _ _ _ (xs (v4 + 1).toNatClampNeg) (xs (v4 + 2).toNatClampNeg) (xs (v4 + 3).toNatClampNeg) 0 (xs (v4 + 5).toNatClampNeg) hjL hI
    refine j_callVi (pc := 466) (As := [.int (xs (v4 + 1).toNatClampNeg), .int (xs (v4 + 2).toNatClampNeg), .int (xs (v4 + 3).toNatClampNeg), .int 0, .int (xs (v4 + 5).toNatClampNeg)]) (rest := []) (ws' := (lww a k am km qo ko w2gM gnC gbC gnL gbL gnF gbF gnQ gbQ gE gtp glf gtr glh gov mW mC mL mR mQ mE mtb mnC mnL mnR mov mnQ mwr mwl mft mth mpl out)) C K (ci := 2) (q0 := 0) rfl rfl rfl (ctX2_enter l D a k _ _ _ _ _ _ _ _ _ _ _ _ _ _ _ _ _ _ _ _ _ _ hw2) gL_law_X2_enter rfl rfl rfl hdyX2_enter ⟨Nat.le_of_ble_eq_true rfl, Nat.le_of_ble_eq_true rfl⟩ (List.range 19) rfl (by decide) (jspA rfl rfl) [0, 1, 2, 3, 4, 5] rfl rfl (Nat.le_of_ble_eq_true rfl) dL_law_466 ⟨by show 30 + j ≤ 600002; omega, by show 33300 + 6 * j ≤ 7302232; omega⟩ ?_
    refine j_aload_n (pc := 469) C 2 dL_law_469 rfl rfl ?_
    refine j_aload_n (pc := 470) C 0 dL_law_470 rfl rfl ?_
    refine j_iload (pc := 471) C 4 dL_law_471 rfl ?_
    refine j_iconst (pc := 473) (v := 1) C dL_law_473 (by decide) ?_
    refine j_iadd (pc := 474) C dL_law_474 ?_
    refine j_sld (pc := 475) C hX hbl hbA hv1 dL_law_475 ?_
    refine j_aload_n (pc := 476) C 0 dL_law_476 rfl rfl ?_
    refine j_iload (pc := 477) C 4 dL_law_477 rfl ?_
    refine j_iconst (pc := 479) (v := 2) C dL_law_479 (by decide) ?_
    refine j_iadd (pc := 480) C dL_law_480 ?_
    refine j_sld (pc := 481) C hX hbl hbA hv2 dL_law_481 ?_
    refine j_aload_n (pc := 482) C 0 dL_law_482 rfl rfl ?_
    refine j_iload (pc := 483) C 4 dL_law_483 rfl ?_
    refine j_iconst (pc := 485) (v := 3) C dL_law_485 (by decide) ?_
    refine j_iadd (pc := 486) C dL_law_486 ?_
    refine j_sld (pc := 487) C hX hbl hbA hv3 dL_law_487 ?_
    refine j_aload_n (pc := 488) C 0 dL_law_488 rfl rfl ?_
    refine j_iload (pc := 489) C 4 dL_law_489 rfl ?_
    refine j_iconst (pc := 491) (v := 4) C dL_law_491 (by decide) ?_
    refine j_iadd (pc := 492) C dL_law_492 ?_
    refine j_sld (pc := 493) C hX hbl hbA hv4 dL_law_493 ?_
    refine j_if_eq (pc := 494) (tgt := 501) C dL_law_494 (by decide) (fun _ => ?_) (fun h => absurd c1 h)
    refine j_iconst (pc := 501) (v := 0) C dL_law_501 (by decide) ?_
    refine j_aload_n (pc := 502) C 0 dL_law_502 rfl rfl ?_
    refine j_iload (pc := 503) C 4 dL_law_503 rfl ?_
    refine j_iconst (pc := 505) (v := 5) C dL_law_505 (by decide) ?_
    refine j_iadd (pc := 506) C dL_law_506 ?_
    refine j_sld (pc := 507) C hX hbl hbA hv5 dL_law_507 ?_
    refine j_callVi (pc := 508) (As := [.int (xs (v4 + 1).toNatClampNeg), .int (xs (v4 + 2).toNatClampNeg), .int (xs (v4 + 3).toNatClampNeg), .int 0, .int (xs (v4 + 5).toNatClampNeg)]) (rest := [.int rw2]) (ws' := (lww a k am km qo ko w2gM gnC gbC gnL gbL gnF gbF gnQ gbQ gE gtp glf gtr glh gov w2mW mC mL mR mQ mE mtb mnC mnL mnR mov mnQ mwr mwl mft w2mth mpl out)) C K (ci := 3) (q0 := 0) rfl rfl rfl (ctX3_enter l D am km _ _ _ _ _ _ _ _ _ _ _ _ _ _ _ _ _ _ _ _ _ _ _ _ _ hmw2) gL_law_X3_enter rfl rfl rfl hdyX3_enter ⟨Nat.le_of_ble_eq_true rfl, Nat.le_of_ble_eq_true rfl⟩ ((List.range 7).map (fun i => 19 + i)) rfl (by decide) (jspB rfl rfl rfl) [6, 7, 8, 9, 10, 11] rfl rfl (Nat.le_of_ble_eq_true rfl) dL_law_508 ⟨by show 30 + j ≤ 600002; omega, by show 33300 + 6 * j ≤ 7302232; omega⟩ ?_
    refine j_icmp_eq (pc := 511) (tgt := 1030) C dL_law_511 (by decide) (fun _ => ?_) (fun h => absurd hew2 h)
    refine j_iinc (pc := 1030) (v := (v4 + 6)) (lv' := [(4, .int (v4 + 6)), (0, .ref b), (1, .ref (a 0)), (2, .ref (am 0)), (3, .ref qo)]) C 4 dL_law_1030 rfl rfl (by decide) rfl ?_
    refine j_goto (pc := 1033) (tgt := 23) C dL_law_1033 (by decide) ?_
    refine j_widen (k := 30 + (j + 1)) (n := 33300 + 6 * (j + 1)) (by omega) (by omega) ?_
    exact j_lv [1, 2, 3, 4, 0] rfl (ih (j + 1) _ _ _ _ _ _ _ _ _ _ _ _ _ _ _ _ _ _ _ _ _ _ _ _ _ _ _ _ _ _ _ _ _ _ (by omega) hv6 hIw2)
  · refine j_iconst (pc := 455) (v := 1) C dL_law_455 (by decide) ?_
    refine j_goto (pc := 456) (tgt := 460) C dL_law_456 (by decide) ?_
    refine j_aload_n (pc := 460) C 0 dL_law_460 rfl rfl ?_
    refine j_iload (pc := 461) C 4 dL_law_461 rfl ?_
    refine j_iconst (pc := 463) (v := 5) C dL_law_463 (by decide) ?_
    refine j_iadd (pc := 464) C dL_law_464 ?_
    refine j_sld (pc := 465) C hX hbl hbA hv5 dL_law_465 ?_
    obtain ⟨rw3, rmw3, w3gM, w3mW, w3mth, hw3, hmw3, hew3, hIw3⟩ := S_enter j _ _ _ _ _ _ _ _ _ _ _ _ _ _ _ _ _ _ _ _ _ _ _ _ _ _ _ _ _ _ _ _ (xs (v4 + 1).toNatClampNeg) (xs (v4 + 2).toNatClampNeg) (xs (v4 + 3).toNatClampNeg) 1 (xs (v4 + 5).toNatClampNeg) hjL hI
    refine j_callVi (pc := 466) (As := [.int (xs (v4 + 1).toNatClampNeg), .int (xs (v4 + 2).toNatClampNeg), .int (xs (v4 + 3).toNatClampNeg), .int 1, .int (xs (v4 + 5).toNatClampNeg)]) (rest := []) (ws' := (lww a k am km qo ko w3gM gnC gbC gnL gbL gnF gbF gnQ gbQ gE gtp glf gtr glh gov mW mC mL mR mQ mE mtb mnC mnL mnR mov mnQ mwr mwl mft mth mpl out)) C K (ci := 2) (q0 := 0) rfl rfl rfl (ctX2_enter l D a k _ _ _ _ _ _ _ _ _ _ _ _ _ _ _ _ _ _ _ _ _ _ hw3) gL_law_X2_enter rfl rfl rfl hdyX2_enter ⟨Nat.le_of_ble_eq_true rfl, Nat.le_of_ble_eq_true rfl⟩ (List.range 19) rfl (by decide) (jspA rfl rfl) [0, 1, 2, 3, 4, 5] rfl rfl (Nat.le_of_ble_eq_true rfl) dL_law_466 ⟨by show 30 + j ≤ 600002; omega, by show 33300 + 6 * j ≤ 7302232; omega⟩ ?_
    refine j_aload_n (pc := 469) C 2 dL_law_469 rfl rfl ?_
    refine j_aload_n (pc := 470) C 0 dL_law_470 rfl rfl ?_
    refine j_iload (pc := 471) C 4 dL_law_471 rfl ?_
    refine j_iconst (pc := 473) (v := 1) C dL_law_473 (by decide) ?_
    refine j_iadd (pc := 474) C dL_law_474 ?_
    refine j_sld (pc := 475) C hX hbl hbA hv1 dL_law_475 ?_
    refine j_aload_n (pc := 476) C 0 dL_law_476 rfl rfl ?_
    refine j_iload (pc := 477) C 4 dL_law_477 rfl ?_
    refine j_iconst (pc := 479) (v := 2) C dL_law_479 (by decide) ?_
    refine j_iadd (pc := 480) C dL_law_480 ?_
    refine j_sld (pc := 481) C hX hbl hbA hv2 dL_law_481 ?_
    refine j_aload_n (pc := 482) C 0 dL_law_482 rfl rfl ?_
    refine j_iload (pc := 483) C 4 dL_law_483 rfl ?_
    refine j_iconst (pc := 485) (v := 3) C dL_law_485 (by decide) ?_
    refine j_iadd (pc := 486) C dL_law_486 ?_
    refine j_sld (pc := 487) C hX hbl hbA hv3 dL_law_487 ?_
    refine j_aload_n (pc := 488) C 0 dL_law_488 rfl rfl ?_
    refine j_iload (pc := 489) C 4 dL_law_489 rfl ?_
    refine j_iconst (pc := 491) (v := 4) C dL_law_491 (by decide) ?_
    refine j_iadd (pc := 492) C dL_law_492 ?_
    refine j_sld (pc := 493) C hX hbl hbA hv4 dL_law_493 ?_
    refine j_if_eq (pc := 494) (tgt := 501) C dL_law_494 (by decide) (fun h => absurd h c1) (fun _ => ?_)
    refine j_iconst (pc := 497) (v := 1) C dL_law_497 (by decide) ?_
    refine j_goto (pc := 498) (tgt := 502) C dL_law_498 (by decide) ?_
    refine j_aload_n (pc := 502) C 0 dL_law_502 rfl rfl ?_
    refine j_iload (pc := 503) C 4 dL_law_503 rfl ?_
    refine j_iconst (pc := 505) (v := 5) C dL_law_505 (by decide) ?_
    refine j_iadd (pc := 506) C dL_law_506 ?_
    refine j_sld (pc := 507) C hX hbl hbA hv5 dL_law_507 ?_
    refine j_callVi (pc := 508) (As := [.int (xs (v4 + 1).toNatClampNeg), .int (xs (v4 + 2).toNatClampNeg), .int (xs (v4 + 3).toNatClampNeg), .int 1, .int (xs (v4 + 5).toNatClampNeg)]) (rest := [.int rw3]) (ws' := (lww a k am km qo ko w3gM gnC gbC gnL gbL gnF gbF gnQ gbQ gE gtp glf gtr glh gov w3mW mC mL mR mQ mE mtb mnC mnL mnR mov mnQ mwr mwl mft w3mth mpl out)) C K (ci := 3) (q0 := 0) rfl rfl rfl (ctX3_enter l D am km _ _ _ _ _ _ _ _ _ _ _ _ _ _ _ _ _ _ _ _ _ _ _ _ _ hmw3) gL_law_X3_enter rfl rfl rfl hdyX3_enter ⟨Nat.le_of_ble_eq_true rfl, Nat.le_of_ble_eq_true rfl⟩ ((List.range 7).map (fun i => 19 + i)) rfl (by decide) (jspB rfl rfl rfl) [6, 7, 8, 9, 10, 11] rfl rfl (Nat.le_of_ble_eq_true rfl) dL_law_508 ⟨by show 30 + j ≤ 600002; omega, by show 33300 + 6 * j ≤ 7302232; omega⟩ ?_
    refine j_icmp_eq (pc := 511) (tgt := 1030) C dL_law_511 (by decide) (fun _ => ?_) (fun h => absurd hew3 h)
    refine j_iinc (pc := 1030) (v := (v4 + 6)) (lv' := [(4, .int (v4 + 6)), (0, .ref b), (1, .ref (a 0)), (2, .ref (am 0)), (3, .ref qo)]) C 4 dL_law_1030 rfl rfl (by decide) rfl ?_
    refine j_goto (pc := 1033) (tgt := 23) C dL_law_1033 (by decide) ?_
    refine j_widen (k := 30 + (j + 1)) (n := 33300 + 6 * (j + 1)) (by omega) (by omega) ?_
    exact j_lv [1, 2, 3, 4, 0] rfl (ih (j + 1) _ _ _ _ _ _ _ _ _ _ _ _ _ _ _ _ _ _ _ _ _ _ _ _ _ _ _ _ _ _ _ _ _ _ (by omega) hv6 hIw3)
set_option maxHeartbeats 4000000 in
set_option maxRecDepth 100000 in
theorem lawc_read {p : Program} {l : Launch} (hlt : l.stackTraces = false) {e : Env} {s : State} {m : MethodId} {below : List Frame} {meth : Method} {c : Code} {D : va_G} {b L : Nat} {xs : Nat → Int32} (hL : L ≤ 6) (C : jc p s m #[Value.ref b] c code 7 RL wsL_law (fun q : Nat => s.heap.size ≤ q)) (hr : meth.sig.returnType = ret) (hlk : meth.locks = false) (hX : va_X b L xs s s.heap) (hbl : b < s.heap.size) (hxw : xw s) (hxz : xz (fun q : Nat => s.heap.size ≤ q) s s.heap) {I : Nat → GS → MS → Prop} (S_read : sm_read I 1) (a : Nat → Nat) (k : Nat → ClassId) (am : Nat → Nat) (km : Nat → ClassId) (qo : Nat) (ko : ClassId) (K : jk D (ltt k km ko) s) (j : Nat) (hjL : j < 1) (hj6 : 6 * j + 6 ≤ L) (v4 : Int32) (hv : v4 = nI (6 * j)) (gM : Nat → Int32) (gnC : Int32) (gbC : Nat → Int32) (gnL : Int32) (gbL : Nat → Int32) (gnF : Int32) (gbF : Nat → Int32) (gnQ : Int32) (gbQ : Nat → Int32) (gE : Nat → Nat → Int32) (gtp : Int32) (glf : Int32) (gtr : Int32) (glh : Int32) (gov : Int32) (mW : Nat → Int32) (mC : Nat → Int32) (mL : Nat → Int32) (mR : Nat → Int32) (mQ : Nat → Int32) (mE : Nat → Int32) (mtb : Int32) (mnC : Int32) (mnL : Int32) (mnR : Int32) (mov : Int32) (mnQ : Int32) (mwr : Int32) (mwl : Int32) (mft : Int32) (mth : Int32) (mpl : Int32) (out : Nat → Int64) (hI : I j (gM, gnC, gbC, gnL, gbL, gnF, gbF, gnQ, gbQ, gE, gtp, glf, gtr, glh, gov) (mW, mC, mL, mR, mQ, mE, mtb, mnC, mnL, mnR, mov, mnQ, mwr, mwl, mft, mth, mpl))
    (ih : ∀ (j2 : Nat) (gM : Nat → Int32) (gnC : Int32) (gbC : Nat → Int32) (gnL : Int32) (gbL : Nat → Int32) (gnF : Int32) (gbF : Nat → Int32) (gnQ : Int32) (gbQ : Nat → Int32) (gE : Nat → Nat → Int32) (gtp : Int32) (glf : Int32) (gtr : Int32) (glh : Int32) (gov : Int32) (mW : Nat → Int32) (mC : Nat → Int32) (mL : Nat → Int32) (mR : Nat → Int32) (mQ : Nat → Int32) (mE : Nat → Int32) (mtb : Int32) (mnC : Int32) (mnL : Int32) (mnR : Int32) (mov : Int32) (mnQ : Int32) (mwr : Int32) (mwl : Int32) (mft : Int32) (mth : Int32) (mpl : Int32) (out : Nat → Int64) (v4 : Int32), j2 = j + 1 → v4 = nI (6 * j2) → I j2 (gM, gnC, gbC, gnL, gbL, gnF, gbF, gnQ, gbQ, gE, gtp, glf, gtr, glh, gov) (mW, mC, mL, mR, mQ, mE, mtb, mnC, mnL, mnR, mov, mnQ, mwr, mwl, mft, mth, mpl) → jw p l e room_1 s m #[Value.ref b] below meth c 7 D (fun q : Nat => s.heap.size ≤ q) (30 + j2) (33300 + 6 * j2) (lw_Z below #[Value.ref b] s) (lww a k am km qo ko gM gnC gbC gnL gbL gnF gbF gnQ gbQ gE gtp glf gtr glh gov mW mC mL mR mQ mE mtb mnC mnL mnR mov mnQ mwr mwl mft mth mpl out) [(0, .ref b), (1, .ref (a 0)), (2, .ref (am 0)), (3, .ref qo), (4, .int v4)] 23 []) :
    jw p l e room_1 s m #[Value.ref b] below meth c 7 D (fun q : Nat => s.heap.size ≤ q) (30 + j) (33300 + 6 * j) (lw_Z below #[Value.ref b] s) (lww a k am km qo ko gM gnC gbC gnL gbL gnF gbF gnQ gbQ gE gtp glf gtr glh gov mW mC mL mR mQ mE mtb mnC mnL mnR mov mnQ mwr mwl mft mth mpl out) [(0, .ref b), (1, .ref (a 0)), (2, .ref (am 0)), (3, .ref qo), (4, .int v4)] 516 [] := by
  have hbA : ¬ (fun q : Nat => s.heap.size ≤ q) b := Nat.not_le.mpr hbl
  have hv1 : vp_in (v4 + 1) L := by rw [hv]; exact lawin hj6 (by omega) (k := 1) rfl (by omega)
  have hv2 : vp_in (v4 + 2) L := by rw [hv]; exact lawin hj6 (by omega) (k := 2) rfl (by omega)
  have hv3 : vp_in (v4 + 3) L := by rw [hv]; exact lawin hj6 (by omega) (k := 3) rfl (by omega)
  have hv4 : vp_in (v4 + 4) L := by rw [hv]; exact lawin hj6 (by omega) (k := 4) rfl (by omega)
  have hv5 : vp_in (v4 + 5) L := by rw [hv]; exact lawin hj6 (by omega) (k := 5) rfl (by omega)
  have hv6 : v4 + 6 = nI (6 * (j + 1)) := by rw [hv]; exact lawsix j
  refine j_aload_n (pc := 516) C 1 dL_law_516 rfl rfl ?_
  refine j_aload_n (pc := 517) C 0 dL_law_517 rfl rfl ?_
  refine j_iload (pc := 518) C 4 dL_law_518 rfl ?_
  refine j_iconst (pc := 520) (v := 1) C dL_law_520 (by decide) ?_
  refine j_iadd (pc := 521) C dL_law_521 ?_
  refine j_sld (pc := 522) C hX hbl hbA hv1 dL_law_522 ?_
  refine j_aload_n (pc := 523) C 0 dL_law_523 rfl rfl ?_
  refine j_iload (pc := 524) C 4 dL_law_524 rfl ?_
  refine j_iconst (pc := 526) (v := 2) C dL_law_526 (by decide) ?_
  refine j_iadd (pc := 527) C dL_law_527 ?_
  refine j_sld (pc := 528) C hX hbl hbA hv2 dL_law_528 ?_
  refine j_aload_n (pc := 529) C 3 dL_law_529 rfl rfl ?_
  rcases S_read j _ _ _ _ _ _ _ _ _ _ _ _ _ _ _ _ _ _ _ _ _ _ _ _ _ _ _ _ _ _ _ _ (xs (v4 + 1).toNatClampNeg) (xs (v4 + 2).toNatClampNeg) hjL hI with ⟨rw1, rmw1, w1gnC, w1gbC, w1gnL, w1gbL, w1gnF, w1gbF, w1glf, w1gtr, w1glh, w1gov, w1mC, w1mL, w1mR, w1mnC, w1mnL, w1mnR, w1mov, w1mwr, w1mwl, w1mft, w1mth, w1mpl, hw1, hmw1, htw1, hew1, hIw1⟩ | ⟨rmw1, w1mC, w1mL, w1mR, w1mnC, w1mnL, w1mnR, w1mov, w1mwr, w1mwl, w1mft, w1mth, w1mpl, hw1, hmw1, htw1, hIw1⟩
  · refine j_callSM (pc := 530) (As := [.ref (a 0), .int (xs (v4 + 1).toNatClampNeg), .int (xs (v4 + 2).toNatClampNeg), .ref qo]) (rest := []) (ws' := (lww a k am km qo ko gM w1gnC w1gbC w1gnL w1gbL w1gnF w1gbF gnQ gbQ gE gtp w1glf w1gtr w1glh w1gov mW mC mL mR mQ mE mtb mnC mnL mnR mov mnQ mwr mwl mft mth mpl (vp_updL out (0 : Int32).toNatClampNeg rw1.toInt64))) C K hxw hxz (ctL_read_ret l D a k _ _ _ _ _ _ _ _ _ _ _ _ _ _ _ qo ko out _ _ _ _ _ _ _ _ _ _ _ _ _ hw1) gL_law_L_read rfl rfl rfl hdyL_read ⟨Nat.le_of_ble_eq_true rfl, Nat.le_of_ble_eq_true rfl⟩ (List.range 19 ++ (List.range 1).map (fun i => (19 + 7) + i)) rfl (by decide) (jspH rfl rfl rfl rfl rfl) [0, 1, 2, 3, 4, 5, 12] rfl rfl (Nat.le_of_ble_eq_true rfl) dL_law_530 ⟨by show 30 + j + 1 ≤ 600002; omega, by show 33300 + 6 * j + 6 ≤ 7302232; omega⟩ ?_
    refine j_istore (pc := 533) (lv' := [(5, .int 0), (0, .ref b), (1, .ref (a 0)), (2, .ref (am 0)), (3, .ref qo), (4, .int v4)]) C dL_law_533 (by decide) rfl ?_
    refine j_aload_n (pc := 535) C 3 dL_law_535 rfl rfl ?_
    refine j_aload_n (pc := 536) C 1 dL_law_536 rfl rfl ?_
    refine j_iload (pc := 537) C 5 dL_law_537 rfl ?_
    refine j_iconst (pc := 539) (v := 1) C dL_law_539 (by decide) ?_
    refine j_iadd (pc := 540) C dL_law_540 ?_
    refine j_sld (pc := 541) C hX hbl hbA hv1 dL_law_541 ?_
    refine j_aload_n (pc := 542) C 1 dL_law_542 rfl rfl ?_
    refine j_iload (pc := 543) C 5 dL_law_543 rfl ?_
    refine j_iconst (pc := 545) (v := 2) C dL_law_545 (by decide) ?_
    refine j_iadd (pc := 546) C dL_law_546 ?_
    refine j_sld (pc := 547) C hX hbl hbA hv2 dL_law_547 ?_
    refine j_callVi (pc := 548) (As := [.int (xs (v4 + 1).toNatClampNeg), .int (xs (v4 + 2).toNatClampNeg)]) (rest := []) (ws' := (lww a k am km qo ko gM w1gnC w1gbC w1gnL w1gbL w1gnF w1gbF gnQ gbQ gE gtp w1glf w1gtr w1glh w1gov mW w1mC w1mL w1mR mQ mE mtb w1mnC w1mnL w1mnR w1mov mnQ w1mwr w1mwl w1mft w1mth w1mpl (vp_updL out (0 : Int32).toNatClampNeg rw1.toInt64))) C K (ci := 3) (q0 := 0) rfl rfl rfl (ctX3_read l D am km _ _ _ _ _ _ _ _ _ _ _ _ _ _ _ _ _ _ _ _ _ _ _ _ _ _ _ _ _ _ _ _ hmw1) gL_law_X3_read rfl rfl rfl hdyX3_read ⟨Nat.le_of_ble_eq_true rfl, Nat.le_of_ble_eq_true rfl⟩ ((List.range 7).map (fun i => 19 + i)) rfl (by decide) (jspB rfl rfl rfl) [6, 7, 8, 9, 10, 11] rfl rfl (Nat.le_of_ble_eq_true rfl) dL_law_548 ⟨by show 30 + j + 1 ≤ 600002; omega, by show 33300 + 6 * j + 6 ≤ 7302232; omega⟩ ?_
    refine j_istore (pc := 551) (lv' := [(6, .int rmw1), (5, .int 0), (0, .ref b), (1, .ref (a 0)), (2, .ref (am 0)), (3, .ref qo), (4, .int v4)]) C dL_law_551 (by decide) rfl ?_
    refine j_aload_n (pc := 553) C 4 dL_law_553 rfl rfl ?_
    refine j_callVi (pc := 554) (As := []) (rest := []) (ws' := (lww a k am km qo ko gM w1gnC w1gbC w1gnL w1gbL w1gnF w1gbF gnQ gbQ gE gtp w1glf w1gtr w1glh w1gov mW w1mC w1mL w1mR mQ mE mtb w1mnC w1mnL w1mnR w1mov mnQ w1mwr w1mwl w1mft w1mth w1mpl (vp_updL out (0 : Int32).toNatClampNeg rw1.toInt64))) C K (ci := 3) (q0 := 0) rfl rfl rfl (ctX3_thrown l D am km _ _ _ _ _ _ _ _ _ _ _ _ _ _ _ _ _ _ rfl) gL_law_X3_thrown rfl rfl rfl hdyX3_thrown ⟨Nat.le_of_ble_eq_true rfl, Nat.le_of_ble_eq_true rfl⟩ ((List.range 7).map (fun i => 19 + i)) rfl (by decide) (jspB rfl rfl rfl) [6, 7, 8, 9, 10, 11] rfl rfl (Nat.le_of_ble_eq_true rfl) dL_law_554 ⟨by show 30 + j + 1 ≤ 600002; omega, by show 33300 + 6 * j + 6 ≤ 7302232; omega⟩ ?_
    refine j_iload (pc := 557) C 1 dL_law_557 rfl ?_
    refine j_icmp_eq (pc := 559) (tgt := 564) C dL_law_559 (by decide) (fun _ => ?_) (fun h => absurd htw1 h)
    refine j_iload (pc := 564) C 1 dL_law_564 rfl ?_
    refine j_if_ne (pc := 566) (tgt := 581) C dL_law_566 (by decide) (fun h => absurd h (by decide)) (fun _ => ?_)
    refine j_aload_n (pc := 569) C 5 dL_law_569 rfl rfl ?_
    refine j_iconst (pc := 570) (v := 0) C dL_law_570 (by decide) ?_
    refine j_laload (pc := 571) C K 26 12 rfl rfl (by decide) dL_law_571 ?_
    refine j_iload (pc := 572) C 0 dL_law_572 rfl ?_
    refine j_i2l (pc := 574) C dL_law_574 ?_
    refine j_lcmp (pc := 575) C dL_law_575 ?_
    refine j_if_eq (pc := 576) (tgt := 581) C dL_law_576 (by decide) (fun _ => ?_) (fun h => absurd (show lg_cmp rw1.toInt64 rmw1.toInt64 = 0 by rw [hew1]; exact lg_cmp_self _) h)
    refine j_goto (pc := 581) (tgt := 1030) C dL_law_581 (by decide) ?_
    refine j_iinc (pc := 1030) (v := (v4 + 6)) (lv' := [(4, .int (v4 + 6)), (6, .int rmw1), (5, .int 0), (0, .ref b), (1, .ref (a 0)), (2, .ref (am 0)), (3, .ref qo)]) C 6 dL_law_1030 rfl rfl (by decide) rfl ?_
    refine j_goto (pc := 1033) (tgt := 23) C dL_law_1033 (by decide) ?_
    refine j_widen (k := 30 + (j + 1)) (n := 33300 + 6 * (j + 1)) (by omega) (by omega) ?_
    exact j_lv [3, 4, 5, 6, 0] rfl (ih (j + 1) _ _ _ _ _ _ _ _ _ _ _ _ _ _ _ _ _ _ _ _ _ _ _ _ _ _ _ _ _ _ _ _ _ _ (by omega) hv6 hIw1)
  · refine j_callSM (pc := 530) (As := [.ref (a 0), .int (xs (v4 + 1).toNatClampNeg), .int (xs (v4 + 2).toNatClampNeg), .ref qo]) (rest := []) (ws' := (lww a k am km qo ko gM gnC gbC gnL gbL gnF gbF gnQ gbQ gE gtp 0 gtr glh gov mW mC mL mR mQ mE mtb mnC mnL mnR mov mnQ mwr mwl mft mth mpl out)) C K hxw hxz (ctL_read_thr l hlt D a k _ _ _ _ _ _ _ _ _ _ _ _ _ _ _ qo ko out _ _ hw1) gL_law_L_read rfl rfl rfl hdyL_read ⟨Nat.le_of_ble_eq_true rfl, Nat.le_of_ble_eq_true rfl⟩ (List.range 19 ++ (List.range 1).map (fun i => (19 + 7) + i)) rfl (by decide) (jspH rfl rfl rfl rfl rfl) [0, 1, 2, 3, 4, 5, 12] rfl rfl (Nat.le_of_ble_eq_true rfl) dL_law_530 ⟨by show 30 + j + 1 ≤ 600002; omega, by show 33300 + 6 * j + 6 ≤ 7302232; omega⟩ ?_
    refine j_istore (pc := 533) (lv' := [(5, .int 1), (0, .ref b), (1, .ref (a 0)), (2, .ref (am 0)), (3, .ref qo), (4, .int v4)]) C dL_law_533 (by decide) rfl ?_
    refine j_aload_n (pc := 535) C 3 dL_law_535 rfl rfl ?_
    refine j_aload_n (pc := 536) C 1 dL_law_536 rfl rfl ?_
    refine j_iload (pc := 537) C 5 dL_law_537 rfl ?_
    refine j_iconst (pc := 539) (v := 1) C dL_law_539 (by decide) ?_
    refine j_iadd (pc := 540) C dL_law_540 ?_
    refine j_sld (pc := 541) C hX hbl hbA hv1 dL_law_541 ?_
    refine j_aload_n (pc := 542) C 1 dL_law_542 rfl rfl ?_
    refine j_iload (pc := 543) C 5 dL_law_543 rfl ?_
    refine j_iconst (pc := 545) (v := 2) C dL_law_545 (by decide) ?_
    refine j_iadd (pc := 546) C dL_law_546 ?_
    refine j_sld (pc := 547) C hX hbl hbA hv2 dL_law_547 ?_
    refine j_callVi (pc := 548) (As := [.int (xs (v4 + 1).toNatClampNeg), .int (xs (v4 + 2).toNatClampNeg)]) (rest := []) (ws' := (lww a k am km qo ko gM gnC gbC gnL gbL gnF gbF gnQ gbQ gE gtp 0 gtr glh gov mW w1mC w1mL w1mR mQ mE mtb w1mnC w1mnL w1mnR w1mov mnQ w1mwr w1mwl w1mft w1mth w1mpl out)) C K (ci := 3) (q0 := 0) rfl rfl rfl (ctX3_read l D am km _ _ _ _ _ _ _ _ _ _ _ _ _ _ _ _ _ _ _ _ _ _ _ _ _ _ _ _ _ _ _ _ hmw1) gL_law_X3_read rfl rfl rfl hdyX3_read ⟨Nat.le_of_ble_eq_true rfl, Nat.le_of_ble_eq_true rfl⟩ ((List.range 7).map (fun i => 19 + i)) rfl (by decide) (jspB rfl rfl rfl) [6, 7, 8, 9, 10, 11] rfl rfl (Nat.le_of_ble_eq_true rfl) dL_law_548 ⟨by show 30 + j + 1 ≤ 600002; omega, by show 33300 + 6 * j + 6 ≤ 7302232; omega⟩ ?_
    refine j_istore (pc := 551) (lv' := [(6, .int rmw1), (5, .int 1), (0, .ref b), (1, .ref (a 0)), (2, .ref (am 0)), (3, .ref qo), (4, .int v4)]) C dL_law_551 (by decide) rfl ?_
    refine j_aload_n (pc := 553) C 4 dL_law_553 rfl rfl ?_
    refine j_callVi (pc := 554) (As := []) (rest := []) (ws' := (lww a k am km qo ko gM gnC gbC gnL gbL gnF gbF gnQ gbQ gE gtp 0 gtr glh gov mW w1mC w1mL w1mR mQ mE mtb w1mnC w1mnL w1mnR w1mov mnQ w1mwr w1mwl w1mft w1mth w1mpl out)) C K (ci := 3) (q0 := 0) rfl rfl rfl (ctX3_thrown l D am km _ _ _ _ _ _ _ _ _ _ _ _ _ _ _ _ _ _ rfl) gL_law_X3_thrown rfl rfl rfl hdyX3_thrown ⟨Nat.le_of_ble_eq_true rfl, Nat.le_of_ble_eq_true rfl⟩ ((List.range 7).map (fun i => 19 + i)) rfl (by decide) (jspB rfl rfl rfl) [6, 7, 8, 9, 10, 11] rfl rfl (Nat.le_of_ble_eq_true rfl) dL_law_554 ⟨by show 30 + j + 1 ≤ 600002; omega, by show 33300 + 6 * j + 6 ≤ 7302232; omega⟩ ?_
    refine j_iload (pc := 557) C 1 dL_law_557 rfl ?_
    refine j_icmp_eq (pc := 559) (tgt := 564) C dL_law_559 (by decide) (fun _ => ?_) (fun h => absurd htw1 h)
    refine j_iload (pc := 564) C 1 dL_law_564 rfl ?_
    refine j_if_ne (pc := 566) (tgt := 581) C dL_law_566 (by decide) (fun _ => ?_) (fun h => absurd h (by decide))
    refine j_goto (pc := 581) (tgt := 1030) C dL_law_581 (by decide) ?_
    refine j_iinc (pc := 1030) (v := (v4 + 6)) (lv' := [(4, .int (v4 + 6)), (6, .int rmw1), (5, .int 1), (0, .ref b), (1, .ref (a 0)), (2, .ref (am 0)), (3, .ref qo)]) C 6 dL_law_1030 rfl rfl (by decide) rfl ?_
    refine j_goto (pc := 1033) (tgt := 23) C dL_law_1033 (by decide) ?_
    refine j_widen (k := 30 + (j + 1)) (n := 33300 + 6 * (j + 1)) (by omega) (by omega) ?_
    exact j_lv [3, 4, 5, 6, 0] rfl (ih (j + 1) _ _ _ _ _ _ _ _ _ _ _ _ _ _ _ _ _ _ _ _ _ _ _ _ _ _ _ _ _ _ _ _ _ _ (by omega) hv6 hIw1)
set_option maxHeartbeats 4000000 in
set_option maxRecDepth 100000 in
theorem lawc_write {p : Program} {l : Launch} (hlt : l.stackTraces = false) {e : Env} {s : State} {m : MethodId} {below : List Frame} {meth : Method} {c : Code} {D : va_G} {b L : Nat} {xs : Nat → Int32} (hL : L ≤ 6) (C : jc p s m #[Value.ref b] c code 7 RL wsL_law (fun q : Nat => s.heap.size ≤ q)) (hr : meth.sig.returnType = ret) (hlk : meth.locks = false) (hX : va_X b L xs s s.heap) (hbl : b < s.heap.size) (hxw : xw s) (hxz : xz (fun q : Nat => s.heap.size ≤ q) s s.heap) {I : Nat → GS → MS → Prop} (S_write : sm_write I 1) (a : Nat → Nat) (k : Nat → ClassId) (am : Nat → Nat) (km : Nat → ClassId) (qo : Nat) (ko : ClassId) (K : jk D (ltt k km ko) s) (j : Nat) (hjL : j < 1) (hj6 : 6 * j + 6 ≤ L) (v4 : Int32) (hv : v4 = nI (6 * j)) (gM : Nat → Int32) (gnC : Int32) (gbC : Nat → Int32) (gnL : Int32) (gbL : Nat → Int32) (gnF : Int32) (gbF : Nat → Int32) (gnQ : Int32) (gbQ : Nat → Int32) (gE : Nat → Nat → Int32) (gtp : Int32) (glf : Int32) (gtr : Int32) (glh : Int32) (gov : Int32) (mW : Nat → Int32) (mC : Nat → Int32) (mL : Nat → Int32) (mR : Nat → Int32) (mQ : Nat → Int32) (mE : Nat → Int32) (mtb : Int32) (mnC : Int32) (mnL : Int32) (mnR : Int32) (mov : Int32) (mnQ : Int32) (mwr : Int32) (mwl : Int32) (mft : Int32) (mth : Int32) (mpl : Int32) (out : Nat → Int64) (hI : I j (gM, gnC, gbC, gnL, gbL, gnF, gbF, gnQ, gbQ, gE, gtp, glf, gtr, glh, gov) (mW, mC, mL, mR, mQ, mE, mtb, mnC, mnL, mnR, mov, mnQ, mwr, mwl, mft, mth, mpl))
    (ih : ∀ (j2 : Nat) (gM : Nat → Int32) (gnC : Int32) (gbC : Nat → Int32) (gnL : Int32) (gbL : Nat → Int32) (gnF : Int32) (gbF : Nat → Int32) (gnQ : Int32) (gbQ : Nat → Int32) (gE : Nat → Nat → Int32) (gtp : Int32) (glf : Int32) (gtr : Int32) (glh : Int32) (gov : Int32) (mW : Nat → Int32) (mC : Nat → Int32) (mL : Nat → Int32) (mR : Nat → Int32) (mQ : Nat → Int32) (mE : Nat → Int32) (mtb : Int32) (mnC : Int32) (mnL : Int32) (mnR : Int32) (mov : Int32) (mnQ : Int32) (mwr : Int32) (mwl : Int32) (mft : Int32) (mth : Int32) (mpl : Int32) (out : Nat → Int64) (v4 : Int32), j2 = j + 1 → v4 = nI (6 * j2) → I j2 (gM, gnC, gbC, gnL, gbL, gnF, gbF, gnQ, gbQ, gE, gtp, glf, gtr, glh, gov) (mW, mC, mL, mR, mQ, mE, mtb, mnC, mnL, mnR, mov, mnQ, mwr, mwl, mft, mth, mpl) → jw p l e room_1 s m #[Value.ref b] below meth c 7 D (fun q : Nat => s.heap.size ≤ q) (30 + j2) (33300 + 6 * j2) (lw_Z below #[Value.ref b] s) (lww a k am km qo ko gM gnC gbC gnL gbL gnF gbF gnQ gbQ gE gtp glf gtr glh gov mW mC mL mR mQ mE mtb mnC mnL mnR mov mnQ mwr mwl mft mth mpl out) [(0, .ref b), (1, .ref (a 0)), (2, .ref (am 0)), (3, .ref qo), (4, .int v4)] 23 []) :
    jw p l e room_1 s m #[Value.ref b] below meth c 7 D (fun q : Nat => s.heap.size ≤ q) (30 + j) (33300 + 6 * j) (lw_Z below #[Value.ref b] s) (lww a k am km qo ko gM gnC gbC gnL gbL gnF gbF gnQ gbQ gE gtp glf gtr glh gov mW mC mL mR mQ mE mtb mnC mnL mnR mov mnQ mwr mwl mft mth mpl out) [(0, .ref b), (1, .ref (a 0)), (2, .ref (am 0)), (3, .ref qo), (4, .int v4)] 584 [] := by
  have hbA : ¬ (fun q : Nat => s.heap.size ≤ q) b := Nat.not_le.mpr hbl
  have hv1 : vp_in (v4 + 1) L := by rw [hv]; exact lawin hj6 (by omega) (k := 1) rfl (by omega)
  have hv2 : vp_in (v4 + 2) L := by rw [hv]; exact lawin hj6 (by omega) (k := 2) rfl (by omega)
  have hv3 : vp_in (v4 + 3) L := by rw [hv]; exact lawin hj6 (by omega) (k := 3) rfl (by omega)
  have hv4 : vp_in (v4 + 4) L := by rw [hv]; exact lawin hj6 (by omega) (k := 4) rfl (by omega)
  have hv5 : vp_in (v4 + 5) L := by rw [hv]; exact lawin hj6 (by omega) (k := 5) rfl (by omega)
  have hv6 : v4 + 6 = nI (6 * (j + 1)) := by rw [hv]; exact lawsix j
  refine j_aload_n (pc := 584) C 1 dL_law_584 rfl rfl ?_
  refine j_aload_n (pc := 585) C 0 dL_law_585 rfl rfl ?_
  refine j_iload (pc := 586) C 4 dL_law_586 rfl ?_
  refine j_iconst (pc := 588) (v := 1) C dL_law_588 (by decide) ?_
  refine j_iadd (pc := 589) C dL_law_589 ?_
  refine j_sld (pc := 590) C hX hbl hbA hv1 dL_law_590 ?_
  refine j_aload_n (pc := 591) C 0 dL_law_591 rfl rfl ?_
  refine j_iload (pc := 592) C 4 dL_law_592 rfl ?_
  refine j_iconst (pc := 594) (v := 2) C dL_law_594 (by decide) ?_
  refine j_iadd (pc := 595) C dL_law_595 ?_
  refine j_sld (pc := 596) C hX hbl hbA hv2 dL_law_596 ?_
  refine j_aload_n (pc := 597) C 0 dL_law_597 rfl rfl ?_
  refine j_iload (pc := 598) C 4 dL_law_598 rfl ?_
  refine j_iconst (pc := 600) (v := 3) C dL_law_600 (by decide) ?_
  refine j_iadd (pc := 601) C dL_law_601 ?_
  refine j_sld (pc := 602) C hX hbl hbA hv3 dL_law_602 ?_
  obtain ⟨rw1, rmw1, w1gM, w1gnC, w1gbC, w1gnL, w1gbL, w1gnF, w1gbF, w1glf, w1gtr, w1glh, w1gov, w1mW, w1mC, w1mL, w1mR, w1mnC, w1mnL, w1mnR, w1mov, w1mwr, w1mwl, w1mft, w1mth, w1mpl, hw1, hmw1, hew1, hIw1⟩ := S_write j _ _ _ _ _ _ _ _ _ _ _ _ _ _ _ _ _ _ _ _ _ _ _ _ _ _ _ _ _ _ _ _ (xs (v4 + 1).toNatClampNeg) (xs (v4 + 2).toNatClampNeg) (xs (v4 + 3).toNatClampNeg) hjL hI
  refine j_callVi (pc := 603) (As := [.int (xs (v4 + 1).toNatClampNeg), .int (xs (v4 + 2).toNatClampNeg), .int (xs (v4 + 3).toNatClampNeg)]) (rest := []) (ws' := (lww a k am km qo ko w1gM w1gnC w1gbC w1gnL w1gbL w1gnF w1gbF gnQ gbQ gE gtp w1glf w1gtr w1glh w1gov mW mC mL mR mQ mE mtb mnC mnL mnR mov mnQ mwr mwl mft mth mpl out)) C K (ci := 2) (q0 := 0) rfl rfl rfl (ctX2_write l D a k _ _ _ _ _ _ _ _ _ _ _ _ _ _ _ _ _ _ _ _ _ _ _ _ _ _ _ _ _ _ hw1) gL_law_X2_write rfl rfl rfl hdyX2_write ⟨Nat.le_of_ble_eq_true rfl, Nat.le_of_ble_eq_true rfl⟩ (List.range 19) rfl (by decide) (jspA rfl rfl) [0, 1, 2, 3, 4, 5] rfl rfl (Nat.le_of_ble_eq_true rfl) dL_law_603 ⟨by show 30 + j ≤ 600002; omega, by show 33300 + 6 * j ≤ 7302232; omega⟩ ?_
  refine j_aload_n (pc := 606) C 2 dL_law_606 rfl rfl ?_
  refine j_aload_n (pc := 607) C 0 dL_law_607 rfl rfl ?_
  refine j_iload (pc := 608) C 4 dL_law_608 rfl ?_
  refine j_iconst (pc := 610) (v := 1) C dL_law_610 (by decide) ?_
  refine j_iadd (pc := 611) C dL_law_611 ?_
  refine j_sld (pc := 612) C hX hbl hbA hv1 dL_law_612 ?_
  refine j_aload_n (pc := 613) C 0 dL_law_613 rfl rfl ?_
  refine j_iload (pc := 614) C 4 dL_law_614 rfl ?_
  refine j_iconst (pc := 616) (v := 2) C dL_law_616 (by decide) ?_
  refine j_iadd (pc := 617) C dL_law_617 ?_
  refine j_sld (pc := 618) C hX hbl hbA hv2 dL_law_618 ?_
  refine j_aload_n (pc := 619) C 0 dL_law_619 rfl rfl ?_
  refine j_iload (pc := 620) C 4 dL_law_620 rfl ?_
  refine j_iconst (pc := 622) (v := 3) C dL_law_622 (by decide) ?_
  refine j_iadd (pc := 623) C dL_law_623 ?_
  refine j_sld (pc := 624) C hX hbl hbA hv3 dL_law_624 ?_
  refine j_callVi (pc := 625) (As := [.int (xs (v4 + 1).toNatClampNeg), .int (xs (v4 + 2).toNatClampNeg), .int (xs (v4 + 3).toNatClampNeg)]) (rest := [.int rw1]) (ws' := (lww a k am km qo ko w1gM w1gnC w1gbC w1gnL w1gbL w1gnF w1gbF gnQ gbQ gE gtp w1glf w1gtr w1glh w1gov w1mW w1mC w1mL w1mR mQ mE mtb w1mnC w1mnL w1mnR w1mov mnQ w1mwr w1mwl w1mft w1mth w1mpl out)) C K (ci := 3) (q0 := 0) rfl rfl rfl (ctX3_write l D am km _ _ _ _ _ _ _ _ _ _ _ _ _ _ _ _ _ _ _ _ _ _ _ _ _ _ _ _ _ _ _ _ _ _ hmw1) gL_law_X3_write rfl rfl rfl hdyX3_write ⟨Nat.le_of_ble_eq_true rfl, Nat.le_of_ble_eq_true rfl⟩ ((List.range 7).map (fun i => 19 + i)) rfl (by decide) (jspB rfl rfl rfl) [6, 7, 8, 9, 10, 11] rfl rfl (Nat.le_of_ble_eq_true rfl) dL_law_625 ⟨by show 30 + j ≤ 600002; omega, by show 33300 + 6 * j ≤ 7302232; omega⟩ ?_
  refine j_icmp_eq (pc := 628) (tgt := 1030) C dL_law_628 (by decide) (fun _ => ?_) (fun h => absurd hew1 h)
  refine j_iinc (pc := 1030) (v := (v4 + 6)) (lv' := [(4, .int (v4 + 6)), (0, .ref b), (1, .ref (a 0)), (2, .ref (am 0)), (3, .ref qo)]) C 4 dL_law_1030 rfl rfl (by decide) rfl ?_
  refine j_goto (pc := 1033) (tgt := 23) C dL_law_1033 (by decide) ?_
  refine j_widen (k := 30 + (j + 1)) (n := 33300 + 6 * (j + 1)) (by omega) (by omega) ?_
  exact j_lv [1, 2, 3, 4, 0] rfl (ih (j + 1) _ _ _ _ _ _ _ _ _ _ _ _ _ _ _ _ _ _ _ _ _ _ _ _ _ _ _ _ _ _ _ _ _ _ (by omega) hv6 hIw1)
set_option maxHeartbeats 4000000 in
set_option maxRecDepth 100000 in
theorem lawc_fault {p : Program} {l : Launch} (hlt : l.stackTraces = false) {e : Env} {s : State} {m : MethodId} {below : List Frame} {meth : Method} {c : Code} {D : va_G} {b L : Nat} {xs : Nat → Int32} (hL : L ≤ 6) (C : jc p s m #[Value.ref b] c code 7 RL wsL_law (fun q : Nat => s.heap.size ≤ q)) (hr : meth.sig.returnType = ret) (hlk : meth.locks = false) (hX : va_X b L xs s s.heap) (hbl : b < s.heap.size) (hxw : xw s) (hxz : xz (fun q : Nat => s.heap.size ≤ q) s s.heap) {I : Nat → GS → MS → Prop} (S_fault : sm_fault I 1) (a : Nat → Nat) (k : Nat → ClassId) (am : Nat → Nat) (km : Nat → ClassId) (qo : Nat) (ko : ClassId) (K : jk D (ltt k km ko) s) (j : Nat) (hjL : j < 1) (hj6 : 6 * j + 6 ≤ L) (v4 : Int32) (hv : v4 = nI (6 * j)) (gM : Nat → Int32) (gnC : Int32) (gbC : Nat → Int32) (gnL : Int32) (gbL : Nat → Int32) (gnF : Int32) (gbF : Nat → Int32) (gnQ : Int32) (gbQ : Nat → Int32) (gE : Nat → Nat → Int32) (gtp : Int32) (glf : Int32) (gtr : Int32) (glh : Int32) (gov : Int32) (mW : Nat → Int32) (mC : Nat → Int32) (mL : Nat → Int32) (mR : Nat → Int32) (mQ : Nat → Int32) (mE : Nat → Int32) (mtb : Int32) (mnC : Int32) (mnL : Int32) (mnR : Int32) (mov : Int32) (mnQ : Int32) (mwr : Int32) (mwl : Int32) (mft : Int32) (mth : Int32) (mpl : Int32) (out : Nat → Int64) (hI : I j (gM, gnC, gbC, gnL, gbL, gnF, gbF, gnQ, gbQ, gE, gtp, glf, gtr, glh, gov) (mW, mC, mL, mR, mQ, mE, mtb, mnC, mnL, mnR, mov, mnQ, mwr, mwl, mft, mth, mpl))
    (ih : ∀ (j2 : Nat) (gM : Nat → Int32) (gnC : Int32) (gbC : Nat → Int32) (gnL : Int32) (gbL : Nat → Int32) (gnF : Int32) (gbF : Nat → Int32) (gnQ : Int32) (gbQ : Nat → Int32) (gE : Nat → Nat → Int32) (gtp : Int32) (glf : Int32) (gtr : Int32) (glh : Int32) (gov : Int32) (mW : Nat → Int32) (mC : Nat → Int32) (mL : Nat → Int32) (mR : Nat → Int32) (mQ : Nat → Int32) (mE : Nat → Int32) (mtb : Int32) (mnC : Int32) (mnL : Int32) (mnR : Int32) (mov : Int32) (mnQ : Int32) (mwr : Int32) (mwl : Int32) (mft : Int32) (mth : Int32) (mpl : Int32) (out : Nat → Int64) (v4 : Int32), j2 = j + 1 → v4 = nI (6 * j2) → I j2 (gM, gnC, gbC, gnL, gbL, gnF, gbF, gnQ, gbQ, gE, gtp, glf, gtr, glh, gov) (mW, mC, mL, mR, mQ, mE, mtb, mnC, mnL, mnR, mov, mnQ, mwr, mwl, mft, mth, mpl) → jw p l e room_1 s m #[Value.ref b] below meth c 7 D (fun q : Nat => s.heap.size ≤ q) (30 + j2) (33300 + 6 * j2) (lw_Z below #[Value.ref b] s) (lww a k am km qo ko gM gnC gbC gnL gbL gnF gbF gnQ gbQ gE gtp glf gtr glh gov mW mC mL mR mQ mE mtb mnC mnL mnR mov mnQ mwr mwl mft mth mpl out) [(0, .ref b), (1, .ref (a 0)), (2, .ref (am 0)), (3, .ref qo), (4, .int v4)] 23 []) :
    jw p l e room_1 s m #[Value.ref b] below meth c 7 D (fun q : Nat => s.heap.size ≤ q) (30 + j) (33300 + 6 * j) (lw_Z below #[Value.ref b] s) (lww a k am km qo ko gM gnC gbC gnL gbL gnF gbF gnQ gbQ gE gtp glf gtr glh gov mW mC mL mR mQ mE mtb mnC mnL mnR mov mnQ mwr mwl mft mth mpl out) [(0, .ref b), (1, .ref (a 0)), (2, .ref (am 0)), (3, .ref qo), (4, .int v4)] 633 [] := by
  have hbA : ¬ (fun q : Nat => s.heap.size ≤ q) b := Nat.not_le.mpr hbl
  have hv1 : vp_in (v4 + 1) L := by rw [hv]; exact lawin hj6 (by omega) (k := 1) rfl (by omega)
  have hv2 : vp_in (v4 + 2) L := by rw [hv]; exact lawin hj6 (by omega) (k := 2) rfl (by omega)
  have hv3 : vp_in (v4 + 3) L := by rw [hv]; exact lawin hj6 (by omega) (k := 3) rfl (by omega)
  have hv4 : vp_in (v4 + 4) L := by rw [hv]; exact lawin hj6 (by omega) (k := 4) rfl (by omega)
  have hv5 : vp_in (v4 + 5) L := by rw [hv]; exact lawin hj6 (by omega) (k := 5) rfl (by omega)
  have hv6 : v4 + 6 = nI (6 * (j + 1)) := by rw [hv]; exact lawsix j
  refine j_aload_n (pc := 633) C 1 dL_law_633 rfl rfl ?_
  obtain ⟨rw1, rmw1, w1mth, hw1, hmw1, hew1, hIw1⟩ := S_fault j _ _ _ _ _ _ _ _ _ _ _ _ _ _ _ _ _ _ _ _ _ _ _ _ _ _ _ _ _ _ _ _ hjL hI
  refine j_callVi (pc := 634) (As := []) (rest := []) (ws' := (lww a k am km qo ko gM gnC gbC gnL gbL gnF gbF gnQ gbQ gE gtp glf gtr glh gov mW mC mL mR mQ mE mtb mnC mnL mnR mov mnQ mwr mwl mft mth mpl out)) C K (ci := 2) (q0 := 0) rfl rfl rfl (ctX2_fault l D a k _ _ _ _ _ _ _ _ _ _ _ _ _ _ _ _ hw1) gL_law_X2_fault rfl rfl rfl hdyX2_fault ⟨Nat.le_of_ble_eq_true rfl, Nat.le_of_ble_eq_true rfl⟩ (List.range 19) rfl (by decide) (jspA rfl rfl) [0, 1, 2, 3, 4, 5] rfl rfl (Nat.le_of_ble_eq_true rfl) dL_law_634 ⟨by show 30 + j ≤ 600002; omega, by show 33300 + 6 * j ≤ 7302232; omega⟩ ?_
  refine j_aload_n (pc := 637) C 2 dL_law_637 rfl rfl ?_
  refine j_callVi (pc := 638) (As := []) (rest := [.int rw1]) (ws' := (lww a k am km qo ko gM gnC gbC gnL gbL gnF gbF gnQ gbQ gE gtp glf gtr glh gov mW mC mL mR mQ mE mtb mnC mnL mnR mov mnQ mwr mwl mft w1mth mpl out)) C K (ci := 3) (q0 := 0) rfl rfl rfl (ctX3_fault l D am km _ _ _ _ _ _ _ _ _ _ _ _ _ _ _ _ _ _ _ hmw1) gL_law_X3_fault rfl rfl rfl hdyX3_fault ⟨Nat.le_of_ble_eq_true rfl, Nat.le_of_ble_eq_true rfl⟩ ((List.range 7).map (fun i => 19 + i)) rfl (by decide) (jspB rfl rfl rfl) [6, 7, 8, 9, 10, 11] rfl rfl (Nat.le_of_ble_eq_true rfl) dL_law_638 ⟨by show 30 + j ≤ 600002; omega, by show 33300 + 6 * j ≤ 7302232; omega⟩ ?_
  refine j_icmp_eq (pc := 641) (tgt := 1030) C dL_law_641 (by decide) (fun _ => ?_) (fun h => absurd hew1 h)
  refine j_iinc (pc := 1030) (v := (v4 + 6)) (lv' := [(4, .int (v4 + 6)), (0, .ref b), (1, .ref (a 0)), (2, .ref (am 0)), (3, .ref qo)]) C 4 dL_law_1030 rfl rfl (by decide) rfl ?_
  refine j_goto (pc := 1033) (tgt := 23) C dL_law_1033 (by decide) ?_
  refine j_widen (k := 30 + (j + 1)) (n := 33300 + 6 * (j + 1)) (by omega) (by omega) ?_
  exact j_lv [1, 2, 3, 4, 0] rfl (ih (j + 1) _ _ _ _ _ _ _ _ _ _ _ _ _ _ _ _ _ _ _ _ _ _ _ _ _ _ _ _ _ _ _ _ _ _ (by omega) hv6 hIw1)
set_option maxHeartbeats 4000000 in
set_option maxRecDepth 100000 in
theorem lawc_ring {p : Program} {l : Launch} (hlt : l.stackTraces = false) {e : Env} {s : State} {m : MethodId} {below : List Frame} {meth : Method} {c : Code} {D : va_G} {b L : Nat} {xs : Nat → Int32} (hL : L ≤ 6) (C : jc p s m #[Value.ref b] c code 7 RL wsL_law (fun q : Nat => s.heap.size ≤ q)) (hr : meth.sig.returnType = ret) (hlk : meth.locks = false) (hX : va_X b L xs s s.heap) (hbl : b < s.heap.size) (hxw : xw s) (hxz : xz (fun q : Nat => s.heap.size ≤ q) s s.heap) {I : Nat → GS → MS → Prop} (S_ring : sm_ring I 1) (a : Nat → Nat) (k : Nat → ClassId) (am : Nat → Nat) (km : Nat → ClassId) (qo : Nat) (ko : ClassId) (K : jk D (ltt k km ko) s) (j : Nat) (hjL : j < 1) (hj6 : 6 * j + 6 ≤ L) (v4 : Int32) (hv : v4 = nI (6 * j)) (gM : Nat → Int32) (gnC : Int32) (gbC : Nat → Int32) (gnL : Int32) (gbL : Nat → Int32) (gnF : Int32) (gbF : Nat → Int32) (gnQ : Int32) (gbQ : Nat → Int32) (gE : Nat → Nat → Int32) (gtp : Int32) (glf : Int32) (gtr : Int32) (glh : Int32) (gov : Int32) (mW : Nat → Int32) (mC : Nat → Int32) (mL : Nat → Int32) (mR : Nat → Int32) (mQ : Nat → Int32) (mE : Nat → Int32) (mtb : Int32) (mnC : Int32) (mnL : Int32) (mnR : Int32) (mov : Int32) (mnQ : Int32) (mwr : Int32) (mwl : Int32) (mft : Int32) (mth : Int32) (mpl : Int32) (out : Nat → Int64) (hI : I j (gM, gnC, gbC, gnL, gbL, gnF, gbF, gnQ, gbQ, gE, gtp, glf, gtr, glh, gov) (mW, mC, mL, mR, mQ, mE, mtb, mnC, mnL, mnR, mov, mnQ, mwr, mwl, mft, mth, mpl))
    (ih : ∀ (j2 : Nat) (gM : Nat → Int32) (gnC : Int32) (gbC : Nat → Int32) (gnL : Int32) (gbL : Nat → Int32) (gnF : Int32) (gbF : Nat → Int32) (gnQ : Int32) (gbQ : Nat → Int32) (gE : Nat → Nat → Int32) (gtp : Int32) (glf : Int32) (gtr : Int32) (glh : Int32) (gov : Int32) (mW : Nat → Int32) (mC : Nat → Int32) (mL : Nat → Int32) (mR : Nat → Int32) (mQ : Nat → Int32) (mE : Nat → Int32) (mtb : Int32) (mnC : Int32) (mnL : Int32) (mnR : Int32) (mov : Int32) (mnQ : Int32) (mwr : Int32) (mwl : Int32) (mft : Int32) (mth : Int32) (mpl : Int32) (out : Nat → Int64) (v4 : Int32), j2 = j + 1 → v4 = nI (6 * j2) → I j2 (gM, gnC, gbC, gnL, gbL, gnF, gbF, gnQ, gbQ, gE, gtp, glf, gtr, glh, gov) (mW, mC, mL, mR, mQ, mE, mtb, mnC, mnL, mnR, mov, mnQ, mwr, mwl, mft, mth, mpl) → jw p l e room_1 s m #[Value.ref b] below meth c 7 D (fun q : Nat => s.heap.size ≤ q) (30 + j2) (33300 + 6 * j2) (lw_Z below #[Value.ref b] s) (lww a k am km qo ko gM gnC gbC gnL gbL gnF gbF gnQ gbQ gE gtp glf gtr glh gov mW mC mL mR mQ mE mtb mnC mnL mnR mov mnQ mwr mwl mft mth mpl out) [(0, .ref b), (1, .ref (a 0)), (2, .ref (am 0)), (3, .ref qo), (4, .int v4)] 23 []) :
    jw p l e room_1 s m #[Value.ref b] below meth c 7 D (fun q : Nat => s.heap.size ≤ q) (30 + j) (33300 + 6 * j) (lw_Z below #[Value.ref b] s) (lww a k am km qo ko gM gnC gbC gnL gbL gnF gbF gnQ gbQ gE gtp glf gtr glh gov mW mC mL mR mQ mE mtb mnC mnL mnR mov mnQ mwr mwl mft mth mpl out) [(0, .ref b), (1, .ref (a 0)), (2, .ref (am 0)), (3, .ref qo), (4, .int v4)] 646 [] := by
  have hbA : ¬ (fun q : Nat => s.heap.size ≤ q) b := Nat.not_le.mpr hbl
  have hv1 : vp_in (v4 + 1) L := by rw [hv]; exact lawin hj6 (by omega) (k := 1) rfl (by omega)
  have hv2 : vp_in (v4 + 2) L := by rw [hv]; exact lawin hj6 (by omega) (k := 2) rfl (by omega)
  have hv3 : vp_in (v4 + 3) L := by rw [hv]; exact lawin hj6 (by omega) (k := 3) rfl (by omega)
  have hv4 : vp_in (v4 + 4) L := by rw [hv]; exact lawin hj6 (by omega) (k := 4) rfl (by omega)
  have hv5 : vp_in (v4 + 5) L := by rw [hv]; exact lawin hj6 (by omega) (k := 5) rfl (by omega)
  have hv6 : v4 + 6 = nI (6 * (j + 1)) := by rw [hv]; exact lawsix j
  refine j_aload_n (pc := 646) C 1 dL_law_646 rfl rfl ?_
  refine j_aload_n (pc := 647) C 0 dL_law_647 rfl rfl ?_
  refine j_iload (pc := 648) C 4 dL_law_648 rfl ?_
  refine j_iconst (pc := 650) (v := 1) C dL_law_650 (by decide) ?_
  refine j_iadd (pc := 651) C dL_law_651 ?_
  refine j_sld (pc := 652) C hX hbl hbA hv1 dL_law_652 ?_
  refine j_aload_n (pc := 653) C 0 dL_law_653 rfl rfl ?_
  refine j_iload (pc := 654) C 4 dL_law_654 rfl ?_
  refine j_iconst (pc := 656) (v := 2) C dL_law_656 (by decide) ?_
  refine j_iadd (pc := 657) C dL_law_657 ?_
  refine j_sld (pc := 658) C hX hbl hbA hv2 dL_law_658 ?_
  refine j_aload_n (pc := 659) C 0 dL_law_659 rfl rfl ?_
  refine j_iload (pc := 660) C 4 dL_law_660 rfl ?_
  refine j_iconst (pc := 662) (v := 3) C dL_law_662 (by decide) ?_
  refine j_iadd (pc := 663) C dL_law_663 ?_
  refine j_sld (pc := 664) C hX hbl hbA hv3 dL_law_664 ?_
  obtain ⟨rw1, rmw1, w1gE, w1mE, w1mth, hw1, hmw1, hew1, hIw1⟩ := S_ring j _ _ _ _ _ _ _ _ _ _ _ _ _ _ _ _ _ _ _ _ _ _ _ _ _ _ _ _ _ _ _ _ (xs (v4 + 1).toNatClampNeg) (xs (v4 + 2).toNatClampNeg) (xs (v4 + 3).toNatClampNeg) hjL hI
  refine j_callVi (pc := 665) (As := [.int (xs (v4 + 1).toNatClampNeg), .int (xs (v4 + 2).toNatClampNeg), .int (xs (v4 + 3).toNatClampNeg)]) (rest := []) (ws' := (lww a k am km qo ko gM gnC gbC gnL gbL gnF gbF gnQ gbQ w1gE gtp glf gtr glh gov mW mC mL mR mQ mE mtb mnC mnL mnR mov mnQ mwr mwl mft mth mpl out)) C K (ci := 2) (q0 := 0) rfl rfl rfl (ctX2_ring l D a k _ _ _ _ _ _ _ _ _ _ _ _ _ _ _ _ _ _ _ _ hw1) gL_law_X2_ring rfl rfl rfl hdyX2_ring ⟨Nat.le_of_ble_eq_true rfl, Nat.le_of_ble_eq_true rfl⟩ (List.range 19) rfl (by decide) (jspA rfl rfl) [0, 1, 2, 3, 4, 5] rfl rfl (Nat.le_of_ble_eq_true rfl) dL_law_665 ⟨by show 30 + j ≤ 600002; omega, by show 33300 + 6 * j ≤ 7302232; omega⟩ ?_
  refine j_aload_n (pc := 668) C 2 dL_law_668 rfl rfl ?_
  refine j_aload_n (pc := 669) C 0 dL_law_669 rfl rfl ?_
  refine j_iload (pc := 670) C 4 dL_law_670 rfl ?_
  refine j_iconst (pc := 672) (v := 1) C dL_law_672 (by decide) ?_
  refine j_iadd (pc := 673) C dL_law_673 ?_
  refine j_sld (pc := 674) C hX hbl hbA hv1 dL_law_674 ?_
  refine j_aload_n (pc := 675) C 0 dL_law_675 rfl rfl ?_
  refine j_iload (pc := 676) C 4 dL_law_676 rfl ?_
  refine j_iconst (pc := 678) (v := 2) C dL_law_678 (by decide) ?_
  refine j_iadd (pc := 679) C dL_law_679 ?_
  refine j_sld (pc := 680) C hX hbl hbA hv2 dL_law_680 ?_
  refine j_aload_n (pc := 681) C 0 dL_law_681 rfl rfl ?_
  refine j_iload (pc := 682) C 4 dL_law_682 rfl ?_
  refine j_iconst (pc := 684) (v := 3) C dL_law_684 (by decide) ?_
  refine j_iadd (pc := 685) C dL_law_685 ?_
  refine j_sld (pc := 686) C hX hbl hbA hv3 dL_law_686 ?_
  refine j_callVi (pc := 687) (As := [.int (xs (v4 + 1).toNatClampNeg), .int (xs (v4 + 2).toNatClampNeg), .int (xs (v4 + 3).toNatClampNeg)]) (rest := [.int rw1]) (ws' := (lww a k am km qo ko gM gnC gbC gnL gbL gnF gbF gnQ gbQ w1gE gtp glf gtr glh gov mW mC mL mR mQ w1mE mtb mnC mnL mnR mov mnQ mwr mwl mft w1mth mpl out)) C K (ci := 3) (q0 := 0) rfl rfl rfl (ctX3_ring l D am km _ _ _ _ _ _ _ _ _ _ _ _ _ _ _ _ _ _ _ _ _ _ _ hmw1) gL_law_X3_ring rfl rfl rfl hdyX3_ring ⟨Nat.le_of_ble_eq_true rfl, Nat.le_of_ble_eq_true rfl⟩ ((List.range 7).map (fun i => 19 + i)) rfl (by decide) (jspB rfl rfl rfl) [6, 7, 8, 9, 10, 11] rfl rfl (Nat.le_of_ble_eq_true rfl) dL_law_687 ⟨by show 30 + j ≤ 600002; omega, by show 33300 + 6 * j ≤ 7302232; omega⟩ ?_
  refine j_icmp_eq (pc := 690) (tgt := 1030) C dL_law_690 (by decide) (fun _ => ?_) (fun h => absurd hew1 h)
  refine j_iinc (pc := 1030) (v := (v4 + 6)) (lv' := [(4, .int (v4 + 6)), (0, .ref b), (1, .ref (a 0)), (2, .ref (am 0)), (3, .ref qo)]) C 4 dL_law_1030 rfl rfl (by decide) rfl ?_
  refine j_goto (pc := 1033) (tgt := 23) C dL_law_1033 (by decide) ?_
  refine j_widen (k := 30 + (j + 1)) (n := 33300 + 6 * (j + 1)) (by omega) (by omega) ?_
  exact j_lv [1, 2, 3, 4, 0] rfl (ih (j + 1) _ _ _ _ _ _ _ _ _ _ _ _ _ _ _ _ _ _ _ _ _ _ _ _ _ _ _ _ _ _ _ _ _ _ (by omega) hv6 hIw1)
set_option maxHeartbeats 4000000 in
set_option maxRecDepth 100000 in
theorem lawc_tail {p : Program} {l : Launch} (hlt : l.stackTraces = false) {e : Env} {s : State} {m : MethodId} {below : List Frame} {meth : Method} {c : Code} {D : va_G} {b L : Nat} {xs : Nat → Int32} (hL : L ≤ 6) (C : jc p s m #[Value.ref b] c code 7 RL wsL_law (fun q : Nat => s.heap.size ≤ q)) (hr : meth.sig.returnType = ret) (hlk : meth.locks = false) (hX : va_X b L xs s s.heap) (hbl : b < s.heap.size) (hxw : xw s) (hxz : xz (fun q : Nat => s.heap.size ≤ q) s s.heap) {I : Nat → GS → MS → Prop} (S_tail : sm_tail I 1) (a : Nat → Nat) (k : Nat → ClassId) (am : Nat → Nat) (km : Nat → ClassId) (qo : Nat) (ko : ClassId) (K : jk D (ltt k km ko) s) (j : Nat) (hjL : j < 1) (hj6 : 6 * j + 6 ≤ L) (v4 : Int32) (hv : v4 = nI (6 * j)) (gM : Nat → Int32) (gnC : Int32) (gbC : Nat → Int32) (gnL : Int32) (gbL : Nat → Int32) (gnF : Int32) (gbF : Nat → Int32) (gnQ : Int32) (gbQ : Nat → Int32) (gE : Nat → Nat → Int32) (gtp : Int32) (glf : Int32) (gtr : Int32) (glh : Int32) (gov : Int32) (mW : Nat → Int32) (mC : Nat → Int32) (mL : Nat → Int32) (mR : Nat → Int32) (mQ : Nat → Int32) (mE : Nat → Int32) (mtb : Int32) (mnC : Int32) (mnL : Int32) (mnR : Int32) (mov : Int32) (mnQ : Int32) (mwr : Int32) (mwl : Int32) (mft : Int32) (mth : Int32) (mpl : Int32) (out : Nat → Int64) (hI : I j (gM, gnC, gbC, gnL, gbL, gnF, gbF, gnQ, gbQ, gE, gtp, glf, gtr, glh, gov) (mW, mC, mL, mR, mQ, mE, mtb, mnC, mnL, mnR, mov, mnQ, mwr, mwl, mft, mth, mpl))
    (ih : ∀ (j2 : Nat) (gM : Nat → Int32) (gnC : Int32) (gbC : Nat → Int32) (gnL : Int32) (gbL : Nat → Int32) (gnF : Int32) (gbF : Nat → Int32) (gnQ : Int32) (gbQ : Nat → Int32) (gE : Nat → Nat → Int32) (gtp : Int32) (glf : Int32) (gtr : Int32) (glh : Int32) (gov : Int32) (mW : Nat → Int32) (mC : Nat → Int32) (mL : Nat → Int32) (mR : Nat → Int32) (mQ : Nat → Int32) (mE : Nat → Int32) (mtb : Int32) (mnC : Int32) (mnL : Int32) (mnR : Int32) (mov : Int32) (mnQ : Int32) (mwr : Int32) (mwl : Int32) (mft : Int32) (mth : Int32) (mpl : Int32) (out : Nat → Int64) (v4 : Int32), j2 = j + 1 → v4 = nI (6 * j2) → I j2 (gM, gnC, gbC, gnL, gbL, gnF, gbF, gnQ, gbQ, gE, gtp, glf, gtr, glh, gov) (mW, mC, mL, mR, mQ, mE, mtb, mnC, mnL, mnR, mov, mnQ, mwr, mwl, mft, mth, mpl) → jw p l e room_1 s m #[Value.ref b] below meth c 7 D (fun q : Nat => s.heap.size ≤ q) (30 + j2) (33300 + 6 * j2) (lw_Z below #[Value.ref b] s) (lww a k am km qo ko gM gnC gbC gnL gbL gnF gbF gnQ gbQ gE gtp glf gtr glh gov mW mC mL mR mQ mE mtb mnC mnL mnR mov mnQ mwr mwl mft mth mpl out) [(0, .ref b), (1, .ref (a 0)), (2, .ref (am 0)), (3, .ref qo), (4, .int v4)] 23 []) :
    jw p l e room_1 s m #[Value.ref b] below meth c 7 D (fun q : Nat => s.heap.size ≤ q) (30 + j) (33300 + 6 * j) (lw_Z below #[Value.ref b] s) (lww a k am km qo ko gM gnC gbC gnL gbL gnF gbF gnQ gbQ gE gtp glf gtr glh gov mW mC mL mR mQ mE mtb mnC mnL mnR mov mnQ mwr mwl mft mth mpl out) [(0, .ref b), (1, .ref (a 0)), (2, .ref (am 0)), (3, .ref qo), (4, .int v4)] 695 [] := by
  have hbA : ¬ (fun q : Nat => s.heap.size ≤ q) b := Nat.not_le.mpr hbl
  have hv1 : vp_in (v4 + 1) L := by rw [hv]; exact lawin hj6 (by omega) (k := 1) rfl (by omega)
  have hv2 : vp_in (v4 + 2) L := by rw [hv]; exact lawin hj6 (by omega) (k := 2) rfl (by omega)
  have hv3 : vp_in (v4 + 3) L := by rw [hv]; exact lawin hj6 (by omega) (k := 3) rfl (by omega)
  have hv4 : vp_in (v4 + 4) L := by rw [hv]; exact lawin hj6 (by omega) (k := 4) rfl (by omega)
  have hv5 : vp_in (v4 + 5) L := by rw [hv]; exact lawin hj6 (by omega) (k := 5) rfl (by omega)
  have hv6 : v4 + 6 = nI (6 * (j + 1)) := by rw [hv]; exact lawsix j
  refine j_aload_n (pc := 695) C 1 dL_law_695 rfl rfl ?_
  refine j_aload_n (pc := 696) C 0 dL_law_696 rfl rfl ?_
  refine j_iload (pc := 697) C 4 dL_law_697 rfl ?_
  refine j_iconst (pc := 699) (v := 1) C dL_law_699 (by decide) ?_
  refine j_iadd (pc := 700) C dL_law_700 ?_
  refine j_sld (pc := 701) C hX hbl hbA hv1 dL_law_701 ?_
  refine j_aload_n (pc := 702) C 0 dL_law_702 rfl rfl ?_
  refine j_iload (pc := 703) C 4 dL_law_703 rfl ?_
  refine j_iconst (pc := 705) (v := 2) C dL_law_705 (by decide) ?_
  refine j_iadd (pc := 706) C dL_law_706 ?_
  refine j_sld (pc := 707) C hX hbl hbA hv2 dL_law_707 ?_
  obtain ⟨rw1, rmw1, w1gE, w1mE, w1mth, hw1, hmw1, hew1, hIw1⟩ := S_tail j _ _ _ _ _ _ _ _ _ _ _ _ _ _ _ _ _ _ _ _ _ _ _ _ _ _ _ _ _ _ _ _ (xs (v4 + 1).toNatClampNeg) (xs (v4 + 2).toNatClampNeg) hjL hI
  refine j_callVi (pc := 708) (As := [.int (xs (v4 + 1).toNatClampNeg), .int (xs (v4 + 2).toNatClampNeg)]) (rest := []) (ws' := (lww a k am km qo ko gM gnC gbC gnL gbL gnF gbF gnQ gbQ w1gE gtp glf gtr glh gov mW mC mL mR mQ mE mtb mnC mnL mnR mov mnQ mwr mwl mft mth mpl out)) C K (ci := 2) (q0 := 0) rfl rfl rfl (ctX2_tail l D a k _ _ _ _ _ _ _ _ _ _ _ _ _ _ _ _ _ _ _ hw1) gL_law_X2_tail rfl rfl rfl hdyX2_tail ⟨Nat.le_of_ble_eq_true rfl, Nat.le_of_ble_eq_true rfl⟩ (List.range 19) rfl (by decide) (jspA rfl rfl) [0, 1, 2, 3, 4, 5] rfl rfl (Nat.le_of_ble_eq_true rfl) dL_law_708 ⟨by show 30 + j ≤ 600002; omega, by show 33300 + 6 * j ≤ 7302232; omega⟩ ?_
  refine j_aload_n (pc := 711) C 2 dL_law_711 rfl rfl ?_
  refine j_aload_n (pc := 712) C 0 dL_law_712 rfl rfl ?_
  refine j_iload (pc := 713) C 4 dL_law_713 rfl ?_
  refine j_iconst (pc := 715) (v := 1) C dL_law_715 (by decide) ?_
  refine j_iadd (pc := 716) C dL_law_716 ?_
  refine j_sld (pc := 717) C hX hbl hbA hv1 dL_law_717 ?_
  refine j_aload_n (pc := 718) C 0 dL_law_718 rfl rfl ?_
  refine j_iload (pc := 719) C 4 dL_law_719 rfl ?_
  refine j_iconst (pc := 721) (v := 2) C dL_law_721 (by decide) ?_
  refine j_iadd (pc := 722) C dL_law_722 ?_
  refine j_sld (pc := 723) C hX hbl hbA hv2 dL_law_723 ?_
  refine j_callVi (pc := 724) (As := [.int (xs (v4 + 1).toNatClampNeg), .int (xs (v4 + 2).toNatClampNeg)]) (rest := [.int rw1]) (ws' := (lww a k am km qo ko gM gnC gbC gnL gbL gnF gbF gnQ gbQ w1gE gtp glf gtr glh gov mW mC mL mR mQ w1mE mtb mnC mnL mnR mov mnQ mwr mwl mft w1mth mpl out)) C K (ci := 3) (q0 := 0) rfl rfl rfl (ctX3_tail l D am km _ _ _ _ _ _ _ _ _ _ _ _ _ _ _ _ _ _ _ _ _ _ hmw1) gL_law_X3_tail rfl rfl rfl hdyX3_tail ⟨Nat.le_of_ble_eq_true rfl, Nat.le_of_ble_eq_true rfl⟩ ((List.range 7).map (fun i => 19 + i)) rfl (by decide) (jspB rfl rfl rfl) [6, 7, 8, 9, 10, 11] rfl rfl (Nat.le_of_ble_eq_true rfl) dL_law_724 ⟨by show 30 + j ≤ 600002; omega, by show 33300 + 6 * j ≤ 7302232; omega⟩ ?_
  refine j_icmp_eq (pc := 727) (tgt := 1030) C dL_law_727 (by decide) (fun _ => ?_) (fun h => absurd hew1 h)
  refine j_iinc (pc := 1030) (v := (v4 + 6)) (lv' := [(4, .int (v4 + 6)), (0, .ref b), (1, .ref (a 0)), (2, .ref (am 0)), (3, .ref qo)]) C 4 dL_law_1030 rfl rfl (by decide) rfl ?_
  refine j_goto (pc := 1033) (tgt := 23) C dL_law_1033 (by decide) ?_
  refine j_widen (k := 30 + (j + 1)) (n := 33300 + 6 * (j + 1)) (by omega) (by omega) ?_
  exact j_lv [1, 2, 3, 4, 0] rfl (ih (j + 1) _ _ _ _ _ _ _ _ _ _ _ _ _ _ _ _ _ _ _ _ _ _ _ _ _ _ _ _ _ _ _ _ _ _ (by omega) hv6 hIw1)
set_option maxHeartbeats 4000000 in
set_option maxRecDepth 100000 in
theorem lawc_step {p : Program} {l : Launch} (hlt : l.stackTraces = false) {e : Env} {s : State} {m : MethodId} {below : List Frame} {meth : Method} {c : Code} {D : va_G} {b L : Nat} {xs : Nat → Int32} (hL : L ≤ 6) (C : jc p s m #[Value.ref b] c code 7 RL wsL_law (fun q : Nat => s.heap.size ≤ q)) (hr : meth.sig.returnType = ret) (hlk : meth.locks = false) (hX : va_X b L xs s s.heap) (hbl : b < s.heap.size) (hxw : xw s) (hxz : xz (fun q : Nat => s.heap.size ≤ q) s s.heap) {I : Nat → GS → MS → Prop} (S_step : sm_step I 1) (a : Nat → Nat) (k : Nat → ClassId) (am : Nat → Nat) (km : Nat → ClassId) (qo : Nat) (ko : ClassId) (K : jk D (ltt k km ko) s) (j : Nat) (hjL : j < 1) (hj6 : 6 * j + 6 ≤ L) (v4 : Int32) (hv : v4 = nI (6 * j)) (gM : Nat → Int32) (gnC : Int32) (gbC : Nat → Int32) (gnL : Int32) (gbL : Nat → Int32) (gnF : Int32) (gbF : Nat → Int32) (gnQ : Int32) (gbQ : Nat → Int32) (gE : Nat → Nat → Int32) (gtp : Int32) (glf : Int32) (gtr : Int32) (glh : Int32) (gov : Int32) (mW : Nat → Int32) (mC : Nat → Int32) (mL : Nat → Int32) (mR : Nat → Int32) (mQ : Nat → Int32) (mE : Nat → Int32) (mtb : Int32) (mnC : Int32) (mnL : Int32) (mnR : Int32) (mov : Int32) (mnQ : Int32) (mwr : Int32) (mwl : Int32) (mft : Int32) (mth : Int32) (mpl : Int32) (out : Nat → Int64) (hI : I j (gM, gnC, gbC, gnL, gbL, gnF, gbF, gnQ, gbQ, gE, gtp, glf, gtr, glh, gov) (mW, mC, mL, mR, mQ, mE, mtb, mnC, mnL, mnR, mov, mnQ, mwr, mwl, mft, mth, mpl))
    (ih : ∀ (j2 : Nat) (gM : Nat → Int32) (gnC : Int32) (gbC : Nat → Int32) (gnL : Int32) (gbL : Nat → Int32) (gnF : Int32) (gbF : Nat → Int32) (gnQ : Int32) (gbQ : Nat → Int32) (gE : Nat → Nat → Int32) (gtp : Int32) (glf : Int32) (gtr : Int32) (glh : Int32) (gov : Int32) (mW : Nat → Int32) (mC : Nat → Int32) (mL : Nat → Int32) (mR : Nat → Int32) (mQ : Nat → Int32) (mE : Nat → Int32) (mtb : Int32) (mnC : Int32) (mnL : Int32) (mnR : Int32) (mov : Int32) (mnQ : Int32) (mwr : Int32) (mwl : Int32) (mft : Int32) (mth : Int32) (mpl : Int32) (out : Nat → Int64) (v4 : Int32), j2 = j + 1 → v4 = nI (6 * j2) → I j2 (gM, gnC, gbC, gnL, gbL, gnF, gbF, gnQ, gbQ, gE, gtp, glf, gtr, glh, gov) (mW, mC, mL, mR, mQ, mE, mtb, mnC, mnL, mnR, mov, mnQ, mwr, mwl, mft, mth, mpl) → jw p l e room_1 s m #[Value.ref b] below meth c 7 D (fun q : Nat => s.heap.size ≤ q) (30 + j2) (33300 + 6 * j2) (lw_Z below #[Value.ref b] s) (lww a k am km qo ko gM gnC gbC gnL gbL gnF gbF gnQ gbQ gE gtp glf gtr glh gov mW mC mL mR mQ mE mtb mnC mnL mnR mov mnQ mwr mwl mft mth mpl out) [(0, .ref b), (1, .ref (a 0)), (2, .ref (am 0)), (3, .ref qo), (4, .int v4)] 23 []) :
    jw p l e room_1 s m #[Value.ref b] below meth c 7 D (fun q : Nat => s.heap.size ≤ q) (30 + j) (33300 + 6 * j) (lw_Z below #[Value.ref b] s) (lww a k am km qo ko gM gnC gbC gnL gbL gnF gbF gnQ gbQ gE gtp glf gtr glh gov mW mC mL mR mQ mE mtb mnC mnL mnR mov mnQ mwr mwl mft mth mpl out) [(0, .ref b), (1, .ref (a 0)), (2, .ref (am 0)), (3, .ref qo), (4, .int v4)] 732 [] := by
  have hbA : ¬ (fun q : Nat => s.heap.size ≤ q) b := Nat.not_le.mpr hbl
  have hv1 : vp_in (v4 + 1) L := by rw [hv]; exact lawin hj6 (by omega) (k := 1) rfl (by omega)
  have hv2 : vp_in (v4 + 2) L := by rw [hv]; exact lawin hj6 (by omega) (k := 2) rfl (by omega)
  have hv3 : vp_in (v4 + 3) L := by rw [hv]; exact lawin hj6 (by omega) (k := 3) rfl (by omega)
  have hv4 : vp_in (v4 + 4) L := by rw [hv]; exact lawin hj6 (by omega) (k := 4) rfl (by omega)
  have hv5 : vp_in (v4 + 5) L := by rw [hv]; exact lawin hj6 (by omega) (k := 5) rfl (by omega)
  have hv6 : v4 + 6 = nI (6 * (j + 1)) := by rw [hv]; exact lawsix j
  refine j_aload_n (pc := 732) C 1 dL_law_732 rfl rfl ?_
  refine j_aload_n (pc := 733) C 0 dL_law_733 rfl rfl ?_
  refine j_iload (pc := 734) C 4 dL_law_734 rfl ?_
  refine j_iconst (pc := 736) (v := 1) C dL_law_736 (by decide) ?_
  refine j_iadd (pc := 737) C dL_law_737 ?_
  refine j_sld (pc := 738) C hX hbl hbA hv1 dL_law_738 ?_
  refine j_aload_n (pc := 739) C 0 dL_law_739 rfl rfl ?_
  refine j_iload (pc := 740) C 4 dL_law_740 rfl ?_
  refine j_iconst (pc := 742) (v := 2) C dL_law_742 (by decide) ?_
  refine j_iadd (pc := 743) C dL_law_743 ?_
  refine j_sld (pc := 744) C hX hbl hbA hv2 dL_law_744 ?_
  obtain ⟨rw1, rmw1, w1gM, w1gnC, w1gbC, w1gnL, w1gbL, w1gnF, w1gbF, w1gE, w1glf, w1gtr, w1glh, w1gov, w1mW, w1mC, w1mL, w1mR, w1mE, w1mnC, w1mnL, w1mnR, w1mov, w1mwr, w1mwl, w1mft, w1mth, w1mpl, hw1, hmw1, hew1, hIw1⟩ := S_step j _ _ _ _ _ _ _ _ _ _ _ _ _ _ _ _ _ _ _ _ _ _ _ _ _ _ _ _ _ _ _ _ (xs (v4 + 1).toNatClampNeg) (xs (v4 + 2).toNatClampNeg) hjL hI
  refine j_callVi (pc := 745) (As := [.int (xs (v4 + 1).toNatClampNeg), .int (xs (v4 + 2).toNatClampNeg)]) (rest := []) (ws' := (lww a k am km qo ko w1gM w1gnC w1gbC w1gnL w1gbL w1gnF w1gbF gnQ gbQ w1gE gtp w1glf w1gtr w1glh w1gov mW mC mL mR mQ mE mtb mnC mnL mnR mov mnQ mwr mwl mft mth mpl out)) C K (ci := 2) (q0 := 0) rfl rfl rfl (ctX2_step l D a k _ _ _ _ _ _ _ _ _ _ _ _ _ _ _ _ _ _ _ _ _ _ _ _ _ _ _ _ _ _ hw1) gL_law_X2_step rfl rfl rfl hdyX2_step ⟨Nat.le_of_ble_eq_true rfl, Nat.le_of_ble_eq_true rfl⟩ (List.range 19) rfl (by decide) (jspA rfl rfl) [0, 1, 2, 3, 4, 5] rfl rfl (Nat.le_of_ble_eq_true rfl) dL_law_745 ⟨by show 30 + j ≤ 600002; omega, by show 33300 + 6 * j ≤ 7302232; omega⟩ ?_
  refine j_aload_n (pc := 748) C 2 dL_law_748 rfl rfl ?_
  refine j_aload_n (pc := 749) C 0 dL_law_749 rfl rfl ?_
  refine j_iload (pc := 750) C 4 dL_law_750 rfl ?_
  refine j_iconst (pc := 752) (v := 1) C dL_law_752 (by decide) ?_
  refine j_iadd (pc := 753) C dL_law_753 ?_
  refine j_sld (pc := 754) C hX hbl hbA hv1 dL_law_754 ?_
  refine j_aload_n (pc := 755) C 0 dL_law_755 rfl rfl ?_
  refine j_iload (pc := 756) C 4 dL_law_756 rfl ?_
  refine j_iconst (pc := 758) (v := 2) C dL_law_758 (by decide) ?_
  refine j_iadd (pc := 759) C dL_law_759 ?_
  refine j_sld (pc := 760) C hX hbl hbA hv2 dL_law_760 ?_
  refine j_callVi (pc := 761) (As := [.int (xs (v4 + 1).toNatClampNeg), .int (xs (v4 + 2).toNatClampNeg)]) (rest := [.int rw1]) (ws' := (lww a k am km qo ko w1gM w1gnC w1gbC w1gnL w1gbL w1gnF w1gbF gnQ gbQ w1gE gtp w1glf w1gtr w1glh w1gov w1mW w1mC w1mL w1mR mQ w1mE mtb w1mnC w1mnL w1mnR w1mov mnQ w1mwr w1mwl w1mft w1mth w1mpl out)) C K (ci := 3) (q0 := 0) rfl rfl rfl (ctX3_step l D am km _ _ _ _ _ _ _ _ _ _ _ _ _ _ _ _ _ _ _ _ _ _ _ _ _ _ _ _ _ _ _ _ _ _ hmw1) gL_law_X3_step rfl rfl rfl hdyX3_step ⟨Nat.le_of_ble_eq_true rfl, Nat.le_of_ble_eq_true rfl⟩ ((List.range 7).map (fun i => 19 + i)) rfl (by decide) (jspB rfl rfl rfl) [6, 7, 8, 9, 10, 11] rfl rfl (Nat.le_of_ble_eq_true rfl) dL_law_761 ⟨by show 30 + j ≤ 600002; omega, by show 33300 + 6 * j ≤ 7302232; omega⟩ ?_
  refine j_icmp_eq (pc := 764) (tgt := 1030) C dL_law_764 (by decide) (fun _ => ?_) (fun h => absurd hew1 h)
  refine j_iinc (pc := 1030) (v := (v4 + 6)) (lv' := [(4, .int (v4 + 6)), (0, .ref b), (1, .ref (a 0)), (2, .ref (am 0)), (3, .ref qo)]) C 4 dL_law_1030 rfl rfl (by decide) rfl ?_
  refine j_goto (pc := 1033) (tgt := 23) C dL_law_1033 (by decide) ?_
  refine j_widen (k := 30 + (j + 1)) (n := 33300 + 6 * (j + 1)) (by omega) (by omega) ?_
  exact j_lv [1, 2, 3, 4, 0] rfl (ih (j + 1) _ _ _ _ _ _ _ _ _ _ _ _ _ _ _ _ _ _ _ _ _ _ _ _ _ _ _ _ _ _ _ _ _ _ (by omega) hv6 hIw1)
set_option maxHeartbeats 4000000 in
set_option maxRecDepth 100000 in
theorem lawc_resume {p : Program} {l : Launch} (hlt : l.stackTraces = false) {e : Env} {s : State} {m : MethodId} {below : List Frame} {meth : Method} {c : Code} {D : va_G} {b L : Nat} {xs : Nat → Int32} (hL : L ≤ 6) (C : jc p s m #[Value.ref b] c code 7 RL wsL_law (fun q : Nat => s.heap.size ≤ q)) (hr : meth.sig.returnType = ret) (hlk : meth.locks = false) (hX : va_X b L xs s s.heap) (hbl : b < s.heap.size) (hxw : xw s) (hxz : xz (fun q : Nat => s.heap.size ≤ q) s s.heap) {I : Nat → GS → MS → Prop} (S_resume : sm_resume I 1) (a : Nat → Nat) (k : Nat → ClassId) (am : Nat → Nat) (km : Nat → ClassId) (qo : Nat) (ko : ClassId) (K : jk D (ltt k km ko) s) (j : Nat) (hjL : j < 1) (hj6 : 6 * j + 6 ≤ L) (v4 : Int32) (hv : v4 = nI (6 * j)) (gM : Nat → Int32) (gnC : Int32) (gbC : Nat → Int32) (gnL : Int32) (gbL : Nat → Int32) (gnF : Int32) (gbF : Nat → Int32) (gnQ : Int32) (gbQ : Nat → Int32) (gE : Nat → Nat → Int32) (gtp : Int32) (glf : Int32) (gtr : Int32) (glh : Int32) (gov : Int32) (mW : Nat → Int32) (mC : Nat → Int32) (mL : Nat → Int32) (mR : Nat → Int32) (mQ : Nat → Int32) (mE : Nat → Int32) (mtb : Int32) (mnC : Int32) (mnL : Int32) (mnR : Int32) (mov : Int32) (mnQ : Int32) (mwr : Int32) (mwl : Int32) (mft : Int32) (mth : Int32) (mpl : Int32) (out : Nat → Int64) (hI : I j (gM, gnC, gbC, gnL, gbL, gnF, gbF, gnQ, gbQ, gE, gtp, glf, gtr, glh, gov) (mW, mC, mL, mR, mQ, mE, mtb, mnC, mnL, mnR, mov, mnQ, mwr, mwl, mft, mth, mpl))
    (ih : ∀ (j2 : Nat) (gM : Nat → Int32) (gnC : Int32) (gbC : Nat → Int32) (gnL : Int32) (gbL : Nat → Int32) (gnF : Int32) (gbF : Nat → Int32) (gnQ : Int32) (gbQ : Nat → Int32) (gE : Nat → Nat → Int32) (gtp : Int32) (glf : Int32) (gtr : Int32) (glh : Int32) (gov : Int32) (mW : Nat → Int32) (mC : Nat → Int32) (mL : Nat → Int32) (mR : Nat → Int32) (mQ : Nat → Int32) (mE : Nat → Int32) (mtb : Int32) (mnC : Int32) (mnL : Int32) (mnR : Int32) (mov : Int32) (mnQ : Int32) (mwr : Int32) (mwl : Int32) (mft : Int32) (mth : Int32) (mpl : Int32) (out : Nat → Int64) (v4 : Int32), j2 = j + 1 → v4 = nI (6 * j2) → I j2 (gM, gnC, gbC, gnL, gbL, gnF, gbF, gnQ, gbQ, gE, gtp, glf, gtr, glh, gov) (mW, mC, mL, mR, mQ, mE, mtb, mnC, mnL, mnR, mov, mnQ, mwr, mwl, mft, mth, mpl) → jw p l e room_1 s m #[Value.ref b] below meth c 7 D (fun q : Nat => s.heap.size ≤ q) (30 + j2) (33300 + 6 * j2) (lw_Z below #[Value.ref b] s) (lww a k am km qo ko gM gnC gbC gnL gbL gnF gbF gnQ gbQ gE gtp glf gtr glh gov mW mC mL mR mQ mE mtb mnC mnL mnR mov mnQ mwr mwl mft mth mpl out) [(0, .ref b), (1, .ref (a 0)), (2, .ref (am 0)), (3, .ref qo), (4, .int v4)] 23 []) :
    jw p l e room_1 s m #[Value.ref b] below meth c 7 D (fun q : Nat => s.heap.size ≤ q) (30 + j) (33300 + 6 * j) (lw_Z below #[Value.ref b] s) (lww a k am km qo ko gM gnC gbC gnL gbL gnF gbF gnQ gbQ gE gtp glf gtr glh gov mW mC mL mR mQ mE mtb mnC mnL mnR mov mnQ mwr mwl mft mth mpl out) [(0, .ref b), (1, .ref (a 0)), (2, .ref (am 0)), (3, .ref qo), (4, .int v4)] 769 [] := by
  have hbA : ¬ (fun q : Nat => s.heap.size ≤ q) b := Nat.not_le.mpr hbl
  have hv1 : vp_in (v4 + 1) L := by rw [hv]; exact lawin hj6 (by omega) (k := 1) rfl (by omega)
  have hv2 : vp_in (v4 + 2) L := by rw [hv]; exact lawin hj6 (by omega) (k := 2) rfl (by omega)
  have hv3 : vp_in (v4 + 3) L := by rw [hv]; exact lawin hj6 (by omega) (k := 3) rfl (by omega)
  have hv4 : vp_in (v4 + 4) L := by rw [hv]; exact lawin hj6 (by omega) (k := 4) rfl (by omega)
  have hv5 : vp_in (v4 + 5) L := by rw [hv]; exact lawin hj6 (by omega) (k := 5) rfl (by omega)
  have hv6 : v4 + 6 = nI (6 * (j + 1)) := by rw [hv]; exact lawsix j
  refine j_aload_n (pc := 769) C 1 dL_law_769 rfl rfl ?_
  refine j_aload_n (pc := 770) C 0 dL_law_770 rfl rfl ?_
  refine j_iload (pc := 771) C 4 dL_law_771 rfl ?_
  refine j_iconst (pc := 773) (v := 1) C dL_law_773 (by decide) ?_
  refine j_iadd (pc := 774) C dL_law_774 ?_
  refine j_sld (pc := 775) C hX hbl hbA hv1 dL_law_775 ?_
  obtain ⟨rw1, rmw1, w1gE, w1mE, w1mth, hw1, hmw1, hew1, hIw1⟩ := S_resume j _ _ _ _ _ _ _ _ _ _ _ _ _ _ _ _ _ _ _ _ _ _ _ _ _ _ _ _ _ _ _ _ (xs (v4 + 1).toNatClampNeg) hjL hI
  refine j_callVi (pc := 776) (As := [.int (xs (v4 + 1).toNatClampNeg)]) (rest := []) (ws' := (lww a k am km qo ko gM gnC gbC gnL gbL gnF gbF gnQ gbQ w1gE gtp glf gtr glh gov mW mC mL mR mQ mE mtb mnC mnL mnR mov mnQ mwr mwl mft mth mpl out)) C K (ci := 2) (q0 := 0) rfl rfl rfl (ctX2_resume l D a k _ _ _ _ _ _ _ _ _ _ _ _ _ _ _ _ _ _ hw1) gL_law_X2_resume rfl rfl rfl hdyX2_resume ⟨Nat.le_of_ble_eq_true rfl, Nat.le_of_ble_eq_true rfl⟩ (List.range 19) rfl (by decide) (jspA rfl rfl) [0, 1, 2, 3, 4, 5] rfl rfl (Nat.le_of_ble_eq_true rfl) dL_law_776 ⟨by show 30 + j ≤ 600002; omega, by show 33300 + 6 * j ≤ 7302232; omega⟩ ?_
  refine j_aload_n (pc := 779) C 2 dL_law_779 rfl rfl ?_
  refine j_aload_n (pc := 780) C 0 dL_law_780 rfl rfl ?_
  refine j_iload (pc := 781) C 4 dL_law_781 rfl ?_
  refine j_iconst (pc := 783) (v := 1) C dL_law_783 (by decide) ?_
  refine j_iadd (pc := 784) C dL_law_784 ?_
  refine j_sld (pc := 785) C hX hbl hbA hv1 dL_law_785 ?_
  refine j_callVi (pc := 786) (As := [.int (xs (v4 + 1).toNatClampNeg)]) (rest := [.int rw1]) (ws' := (lww a k am km qo ko gM gnC gbC gnL gbL gnF gbF gnQ gbQ w1gE gtp glf gtr glh gov mW mC mL mR mQ w1mE mtb mnC mnL mnR mov mnQ mwr mwl mft w1mth mpl out)) C K (ci := 3) (q0 := 0) rfl rfl rfl (ctX3_resume l D am km _ _ _ _ _ _ _ _ _ _ _ _ _ _ _ _ _ _ _ _ _ hmw1) gL_law_X3_resume rfl rfl rfl hdyX3_resume ⟨Nat.le_of_ble_eq_true rfl, Nat.le_of_ble_eq_true rfl⟩ ((List.range 7).map (fun i => 19 + i)) rfl (by decide) (jspB rfl rfl rfl) [6, 7, 8, 9, 10, 11] rfl rfl (Nat.le_of_ble_eq_true rfl) dL_law_786 ⟨by show 30 + j ≤ 600002; omega, by show 33300 + 6 * j ≤ 7302232; omega⟩ ?_
  refine j_icmp_eq (pc := 789) (tgt := 1030) C dL_law_789 (by decide) (fun _ => ?_) (fun h => absurd hew1 h)
  refine j_iinc (pc := 1030) (v := (v4 + 6)) (lv' := [(4, .int (v4 + 6)), (0, .ref b), (1, .ref (a 0)), (2, .ref (am 0)), (3, .ref qo)]) C 4 dL_law_1030 rfl rfl (by decide) rfl ?_
  refine j_goto (pc := 1033) (tgt := 23) C dL_law_1033 (by decide) ?_
  refine j_widen (k := 30 + (j + 1)) (n := 33300 + 6 * (j + 1)) (by omega) (by omega) ?_
  exact j_lv [1, 2, 3, 4, 0] rfl (ih (j + 1) _ _ _ _ _ _ _ _ _ _ _ _ _ _ _ _ _ _ _ _ _ _ _ _ _ _ _ _ _ _ _ _ _ _ (by omega) hv6 hIw1)
set_option maxHeartbeats 4000000 in
set_option maxRecDepth 100000 in
theorem lawc_engine {p : Program} {l : Launch} (hlt : l.stackTraces = false) {e : Env} {s : State} {m : MethodId} {below : List Frame} {meth : Method} {c : Code} {D : va_G} {b L : Nat} {xs : Nat → Int32} (hL : L ≤ 6) (C : jc p s m #[Value.ref b] c code 7 RL wsL_law (fun q : Nat => s.heap.size ≤ q)) (hr : meth.sig.returnType = ret) (hlk : meth.locks = false) (hX : va_X b L xs s s.heap) (hbl : b < s.heap.size) (hxw : xw s) (hxz : xz (fun q : Nat => s.heap.size ≤ q) s s.heap) {I : Nat → GS → MS → Prop} (S_engine : sm_engine I 1) (a : Nat → Nat) (k : Nat → ClassId) (am : Nat → Nat) (km : Nat → ClassId) (qo : Nat) (ko : ClassId) (K : jk D (ltt k km ko) s) (j : Nat) (hjL : j < 1) (hj6 : 6 * j + 6 ≤ L) (v4 : Int32) (hv : v4 = nI (6 * j)) (gM : Nat → Int32) (gnC : Int32) (gbC : Nat → Int32) (gnL : Int32) (gbL : Nat → Int32) (gnF : Int32) (gbF : Nat → Int32) (gnQ : Int32) (gbQ : Nat → Int32) (gE : Nat → Nat → Int32) (gtp : Int32) (glf : Int32) (gtr : Int32) (glh : Int32) (gov : Int32) (mW : Nat → Int32) (mC : Nat → Int32) (mL : Nat → Int32) (mR : Nat → Int32) (mQ : Nat → Int32) (mE : Nat → Int32) (mtb : Int32) (mnC : Int32) (mnL : Int32) (mnR : Int32) (mov : Int32) (mnQ : Int32) (mwr : Int32) (mwl : Int32) (mft : Int32) (mth : Int32) (mpl : Int32) (out : Nat → Int64) (hI : I j (gM, gnC, gbC, gnL, gbL, gnF, gbF, gnQ, gbQ, gE, gtp, glf, gtr, glh, gov) (mW, mC, mL, mR, mQ, mE, mtb, mnC, mnL, mnR, mov, mnQ, mwr, mwl, mft, mth, mpl))
    (ih : ∀ (j2 : Nat) (gM : Nat → Int32) (gnC : Int32) (gbC : Nat → Int32) (gnL : Int32) (gbL : Nat → Int32) (gnF : Int32) (gbF : Nat → Int32) (gnQ : Int32) (gbQ : Nat → Int32) (gE : Nat → Nat → Int32) (gtp : Int32) (glf : Int32) (gtr : Int32) (glh : Int32) (gov : Int32) (mW : Nat → Int32) (mC : Nat → Int32) (mL : Nat → Int32) (mR : Nat → Int32) (mQ : Nat → Int32) (mE : Nat → Int32) (mtb : Int32) (mnC : Int32) (mnL : Int32) (mnR : Int32) (mov : Int32) (mnQ : Int32) (mwr : Int32) (mwl : Int32) (mft : Int32) (mth : Int32) (mpl : Int32) (out : Nat → Int64) (v4 : Int32), j2 = j + 1 → v4 = nI (6 * j2) → I j2 (gM, gnC, gbC, gnL, gbL, gnF, gbF, gnQ, gbQ, gE, gtp, glf, gtr, glh, gov) (mW, mC, mL, mR, mQ, mE, mtb, mnC, mnL, mnR, mov, mnQ, mwr, mwl, mft, mth, mpl) → jw p l e room_1 s m #[Value.ref b] below meth c 7 D (fun q : Nat => s.heap.size ≤ q) (30 + j2) (33300 + 6 * j2) (lw_Z below #[Value.ref b] s) (lww a k am km qo ko gM gnC gbC gnL gbL gnF gbF gnQ gbQ gE gtp glf gtr glh gov mW mC mL mR mQ mE mtb mnC mnL mnR mov mnQ mwr mwl mft mth mpl out) [(0, .ref b), (1, .ref (a 0)), (2, .ref (am 0)), (3, .ref qo), (4, .int v4)] 23 []) :
    jw p l e room_1 s m #[Value.ref b] below meth c 7 D (fun q : Nat => s.heap.size ≤ q) (30 + j) (33300 + 6 * j) (lw_Z below #[Value.ref b] s) (lww a k am km qo ko gM gnC gbC gnL gbL gnF gbF gnQ gbQ gE gtp glf gtr glh gov mW mC mL mR mQ mE mtb mnC mnL mnR mov mnQ mwr mwl mft mth mpl out) [(0, .ref b), (1, .ref (a 0)), (2, .ref (am 0)), (3, .ref qo), (4, .int v4)] 794 [] := by
  have hbA : ¬ (fun q : Nat => s.heap.size ≤ q) b := Nat.not_le.mpr hbl
  have hv1 : vp_in (v4 + 1) L := by rw [hv]; exact lawin hj6 (by omega) (k := 1) rfl (by omega)
  have hv2 : vp_in (v4 + 2) L := by rw [hv]; exact lawin hj6 (by omega) (k := 2) rfl (by omega)
  have hv3 : vp_in (v4 + 3) L := by rw [hv]; exact lawin hj6 (by omega) (k := 3) rfl (by omega)
  have hv4 : vp_in (v4 + 4) L := by rw [hv]; exact lawin hj6 (by omega) (k := 4) rfl (by omega)
  have hv5 : vp_in (v4 + 5) L := by rw [hv]; exact lawin hj6 (by omega) (k := 5) rfl (by omega)
  have hv6 : v4 + 6 = nI (6 * (j + 1)) := by rw [hv]; exact lawsix j
  refine j_aload_n (pc := 794) C 1 dL_law_794 rfl rfl ?_
  refine j_aload_n (pc := 795) C 0 dL_law_795 rfl rfl ?_
  refine j_iload (pc := 796) C 4 dL_law_796 rfl ?_
  refine j_iconst (pc := 798) (v := 1) C dL_law_798 (by decide) ?_
  refine j_iadd (pc := 799) C dL_law_799 ?_
  refine j_sld (pc := 800) C hX hbl hbA hv1 dL_law_800 ?_
  refine j_aload_n (pc := 801) C 0 dL_law_801 rfl rfl ?_
  refine j_iload (pc := 802) C 4 dL_law_802 rfl ?_
  refine j_iconst (pc := 804) (v := 2) C dL_law_804 (by decide) ?_
  refine j_iadd (pc := 805) C dL_law_805 ?_
  refine j_sld (pc := 806) C hX hbl hbA hv2 dL_law_806 ?_
  obtain ⟨rw1, rmw1, w1mth, hw1, hmw1, hew1, hIw1⟩ := S_engine j _ _ _ _ _ _ _ _ _ _ _ _ _ _ _ _ _ _ _ _ _ _ _ _ _ _ _ _ _ _ _ _ (xs (v4 + 1).toNatClampNeg) (xs (v4 + 2).toNatClampNeg) hjL hI
  refine j_callVi (pc := 807) (As := [.int (xs (v4 + 1).toNatClampNeg), .int (xs (v4 + 2).toNatClampNeg)]) (rest := []) (ws' := (lww a k am km qo ko gM gnC gbC gnL gbL gnF gbF gnQ gbQ gE gtp glf gtr glh gov mW mC mL mR mQ mE mtb mnC mnL mnR mov mnQ mwr mwl mft mth mpl out)) C K (ci := 2) (q0 := 0) rfl rfl rfl (ctX2_engine l D a k _ _ _ _ _ _ _ _ _ _ _ _ _ _ _ _ _ _ hw1) gL_law_X2_engine rfl rfl rfl hdyX2_engine ⟨Nat.le_of_ble_eq_true rfl, Nat.le_of_ble_eq_true rfl⟩ (List.range 19) rfl (by decide) (jspA rfl rfl) [0, 1, 2, 3, 4, 5] rfl rfl (Nat.le_of_ble_eq_true rfl) dL_law_807 ⟨by show 30 + j ≤ 600002; omega, by show 33300 + 6 * j ≤ 7302232; omega⟩ ?_
  refine j_aload_n (pc := 810) C 2 dL_law_810 rfl rfl ?_
  refine j_aload_n (pc := 811) C 0 dL_law_811 rfl rfl ?_
  refine j_iload (pc := 812) C 4 dL_law_812 rfl ?_
  refine j_iconst (pc := 814) (v := 1) C dL_law_814 (by decide) ?_
  refine j_iadd (pc := 815) C dL_law_815 ?_
  refine j_sld (pc := 816) C hX hbl hbA hv1 dL_law_816 ?_
  refine j_aload_n (pc := 817) C 0 dL_law_817 rfl rfl ?_
  refine j_iload (pc := 818) C 4 dL_law_818 rfl ?_
  refine j_iconst (pc := 820) (v := 2) C dL_law_820 (by decide) ?_
  refine j_iadd (pc := 821) C dL_law_821 ?_
  refine j_sld (pc := 822) C hX hbl hbA hv2 dL_law_822 ?_
  refine j_callVi (pc := 823) (As := [.int (xs (v4 + 1).toNatClampNeg), .int (xs (v4 + 2).toNatClampNeg)]) (rest := [.int rw1]) (ws' := (lww a k am km qo ko gM gnC gbC gnL gbL gnF gbF gnQ gbQ gE gtp glf gtr glh gov mW mC mL mR mQ mE mtb mnC mnL mnR mov mnQ mwr mwl mft w1mth mpl out)) C K (ci := 3) (q0 := 0) rfl rfl rfl (ctX3_engine l D am km _ _ _ _ _ _ _ _ _ _ _ _ _ _ _ _ _ _ _ _ _ hmw1) gL_law_X3_engine rfl rfl rfl hdyX3_engine ⟨Nat.le_of_ble_eq_true rfl, Nat.le_of_ble_eq_true rfl⟩ ((List.range 7).map (fun i => 19 + i)) rfl (by decide) (jspB rfl rfl rfl) [6, 7, 8, 9, 10, 11] rfl rfl (Nat.le_of_ble_eq_true rfl) dL_law_823 ⟨by show 30 + j ≤ 600002; omega, by show 33300 + 6 * j ≤ 7302232; omega⟩ ?_
  refine j_icmp_eq (pc := 826) (tgt := 1030) C dL_law_826 (by decide) (fun _ => ?_) (fun h => absurd hew1 h)
  refine j_iinc (pc := 1030) (v := (v4 + 6)) (lv' := [(4, .int (v4 + 6)), (0, .ref b), (1, .ref (a 0)), (2, .ref (am 0)), (3, .ref qo)]) C 4 dL_law_1030 rfl rfl (by decide) rfl ?_
  refine j_goto (pc := 1033) (tgt := 23) C dL_law_1033 (by decide) ?_
  refine j_widen (k := 30 + (j + 1)) (n := 33300 + 6 * (j + 1)) (by omega) (by omega) ?_
  exact j_lv [1, 2, 3, 4, 0] rfl (ih (j + 1) _ _ _ _ _ _ _ _ _ _ _ _ _ _ _ _ _ _ _ _ _ _ _ _ _ _ _ _ _ _ _ _ _ _ (by omega) hv6 hIw1)
set_option maxHeartbeats 4000000 in
set_option maxRecDepth 100000 in
theorem lawc_command {p : Program} {l : Launch} (hlt : l.stackTraces = false) {e : Env} {s : State} {m : MethodId} {below : List Frame} {meth : Method} {c : Code} {D : va_G} {b L : Nat} {xs : Nat → Int32} (hL : L ≤ 6) (C : jc p s m #[Value.ref b] c code 7 RL wsL_law (fun q : Nat => s.heap.size ≤ q)) (hr : meth.sig.returnType = ret) (hlk : meth.locks = false) (hX : va_X b L xs s s.heap) (hbl : b < s.heap.size) (hxw : xw s) (hxz : xz (fun q : Nat => s.heap.size ≤ q) s s.heap) {I : Nat → GS → MS → Prop} (S_command : sm_command I 1) (a : Nat → Nat) (k : Nat → ClassId) (am : Nat → Nat) (km : Nat → ClassId) (qo : Nat) (ko : ClassId) (K : jk D (ltt k km ko) s) (j : Nat) (hjL : j < 1) (hj6 : 6 * j + 6 ≤ L) (v4 : Int32) (hv : v4 = nI (6 * j)) (gM : Nat → Int32) (gnC : Int32) (gbC : Nat → Int32) (gnL : Int32) (gbL : Nat → Int32) (gnF : Int32) (gbF : Nat → Int32) (gnQ : Int32) (gbQ : Nat → Int32) (gE : Nat → Nat → Int32) (gtp : Int32) (glf : Int32) (gtr : Int32) (glh : Int32) (gov : Int32) (mW : Nat → Int32) (mC : Nat → Int32) (mL : Nat → Int32) (mR : Nat → Int32) (mQ : Nat → Int32) (mE : Nat → Int32) (mtb : Int32) (mnC : Int32) (mnL : Int32) (mnR : Int32) (mov : Int32) (mnQ : Int32) (mwr : Int32) (mwl : Int32) (mft : Int32) (mth : Int32) (mpl : Int32) (out : Nat → Int64) (hI : I j (gM, gnC, gbC, gnL, gbL, gnF, gbF, gnQ, gbQ, gE, gtp, glf, gtr, glh, gov) (mW, mC, mL, mR, mQ, mE, mtb, mnC, mnL, mnR, mov, mnQ, mwr, mwl, mft, mth, mpl))
    (ih : ∀ (j2 : Nat) (gM : Nat → Int32) (gnC : Int32) (gbC : Nat → Int32) (gnL : Int32) (gbL : Nat → Int32) (gnF : Int32) (gbF : Nat → Int32) (gnQ : Int32) (gbQ : Nat → Int32) (gE : Nat → Nat → Int32) (gtp : Int32) (glf : Int32) (gtr : Int32) (glh : Int32) (gov : Int32) (mW : Nat → Int32) (mC : Nat → Int32) (mL : Nat → Int32) (mR : Nat → Int32) (mQ : Nat → Int32) (mE : Nat → Int32) (mtb : Int32) (mnC : Int32) (mnL : Int32) (mnR : Int32) (mov : Int32) (mnQ : Int32) (mwr : Int32) (mwl : Int32) (mft : Int32) (mth : Int32) (mpl : Int32) (out : Nat → Int64) (v4 : Int32), j2 = j + 1 → v4 = nI (6 * j2) → I j2 (gM, gnC, gbC, gnL, gbL, gnF, gbF, gnQ, gbQ, gE, gtp, glf, gtr, glh, gov) (mW, mC, mL, mR, mQ, mE, mtb, mnC, mnL, mnR, mov, mnQ, mwr, mwl, mft, mth, mpl) → jw p l e room_1 s m #[Value.ref b] below meth c 7 D (fun q : Nat => s.heap.size ≤ q) (30 + j2) (33300 + 6 * j2) (lw_Z below #[Value.ref b] s) (lww a k am km qo ko gM gnC gbC gnL gbL gnF gbF gnQ gbQ gE gtp glf gtr glh gov mW mC mL mR mQ mE mtb mnC mnL mnR mov mnQ mwr mwl mft mth mpl out) [(0, .ref b), (1, .ref (a 0)), (2, .ref (am 0)), (3, .ref qo), (4, .int v4)] 23 []) :
    jw p l e room_1 s m #[Value.ref b] below meth c 7 D (fun q : Nat => s.heap.size ≤ q) (30 + j) (33300 + 6 * j) (lw_Z below #[Value.ref b] s) (lww a k am km qo ko gM gnC gbC gnL gbL gnF gbF gnQ gbQ gE gtp glf gtr glh gov mW mC mL mR mQ mE mtb mnC mnL mnR mov mnQ mwr mwl mft mth mpl out) [(0, .ref b), (1, .ref (a 0)), (2, .ref (am 0)), (3, .ref qo), (4, .int v4)] 831 [] := by
  have hbA : ¬ (fun q : Nat => s.heap.size ≤ q) b := Nat.not_le.mpr hbl
  have hv1 : vp_in (v4 + 1) L := by rw [hv]; exact lawin hj6 (by omega) (k := 1) rfl (by omega)
  have hv2 : vp_in (v4 + 2) L := by rw [hv]; exact lawin hj6 (by omega) (k := 2) rfl (by omega)
  have hv3 : vp_in (v4 + 3) L := by rw [hv]; exact lawin hj6 (by omega) (k := 3) rfl (by omega)
  have hv4 : vp_in (v4 + 4) L := by rw [hv]; exact lawin hj6 (by omega) (k := 4) rfl (by omega)
  have hv5 : vp_in (v4 + 5) L := by rw [hv]; exact lawin hj6 (by omega) (k := 5) rfl (by omega)
  have hv6 : v4 + 6 = nI (6 * (j + 1)) := by rw [hv]; exact lawsix j
  refine j_aload_n (pc := 831) C 1 dL_law_831 rfl rfl ?_
  refine j_aload_n (pc := 832) C 0 dL_law_832 rfl rfl ?_
  refine j_iload (pc := 833) C 4 dL_law_833 rfl ?_
  refine j_iconst (pc := 835) (v := 1) C dL_law_835 (by decide) ?_
  refine j_iadd (pc := 836) C dL_law_836 ?_
  refine j_sld (pc := 837) C hX hbl hbA hv1 dL_law_837 ?_
  refine j_aload_n (pc := 838) C 0 dL_law_838 rfl rfl ?_
  refine j_iload (pc := 839) C 4 dL_law_839 rfl ?_
  refine j_iconst (pc := 841) (v := 2) C dL_law_841 (by decide) ?_
  refine j_iadd (pc := 842) C dL_law_842 ?_
  refine j_sld (pc := 843) C hX hbl hbA hv2 dL_law_843 ?_
  refine j_aload_n (pc := 844) C 0 dL_law_844 rfl rfl ?_
  refine j_iload (pc := 845) C 4 dL_law_845 rfl ?_
  refine j_iconst (pc := 847) (v := 3) C dL_law_847 (by decide) ?_
  refine j_iadd (pc := 848) C dL_law_848 ?_
  refine j_sld (pc := 849) C hX hbl hbA hv3 dL_law_849 ?_
  obtain ⟨rw1, rmw1, w1gnQ, w1gbQ, w1mQ, w1mnQ, w1mth, hw1, hmw1, hew1, hIw1⟩ := S_command j _ _ _ _ _ _ _ _ _ _ _ _ _ _ _ _ _ _ _ _ _ _ _ _ _ _ _ _ _ _ _ _ (xs (v4 + 1).toNatClampNeg) (xs (v4 + 2).toNatClampNeg) (xs (v4 + 3).toNatClampNeg) hjL hI
  refine j_callVi (pc := 850) (As := [.int (xs (v4 + 1).toNatClampNeg), .int (xs (v4 + 2).toNatClampNeg), .int (xs (v4 + 3).toNatClampNeg)]) (rest := []) (ws' := (lww a k am km qo ko gM gnC gbC gnL gbL gnF gbF w1gnQ w1gbQ gE gtp glf gtr glh gov mW mC mL mR mQ mE mtb mnC mnL mnR mov mnQ mwr mwl mft mth mpl out)) C K (ci := 2) (q0 := 0) rfl rfl rfl (ctX2_command l D a k _ _ _ _ _ _ _ _ _ _ _ _ _ _ _ _ _ _ _ _ _ hw1) gL_law_X2_command rfl rfl rfl hdyX2_command ⟨Nat.le_of_ble_eq_true rfl, Nat.le_of_ble_eq_true rfl⟩ (List.range 19) rfl (by decide) (jspA rfl rfl) [0, 1, 2, 3, 4, 5] rfl rfl (Nat.le_of_ble_eq_true rfl) dL_law_850 ⟨by show 30 + j ≤ 600002; omega, by show 33300 + 6 * j ≤ 7302232; omega⟩ ?_
  refine j_aload_n (pc := 853) C 2 dL_law_853 rfl rfl ?_
  refine j_aload_n (pc := 854) C 0 dL_law_854 rfl rfl ?_
  refine j_iload (pc := 855) C 4 dL_law_855 rfl ?_
  refine j_iconst (pc := 857) (v := 1) C dL_law_857 (by decide) ?_
  refine j_iadd (pc := 858) C dL_law_858 ?_
  refine j_sld (pc := 859) C hX hbl hbA hv1 dL_law_859 ?_
  refine j_aload_n (pc := 860) C 0 dL_law_860 rfl rfl ?_
  refine j_iload (pc := 861) C 4 dL_law_861 rfl ?_
  refine j_iconst (pc := 863) (v := 2) C dL_law_863 (by decide) ?_
  refine j_iadd (pc := 864) C dL_law_864 ?_
  refine j_sld (pc := 865) C hX hbl hbA hv2 dL_law_865 ?_
  refine j_aload_n (pc := 866) C 0 dL_law_866 rfl rfl ?_
  refine j_iload (pc := 867) C 4 dL_law_867 rfl ?_
  refine j_iconst (pc := 869) (v := 3) C dL_law_869 (by decide) ?_
  refine j_iadd (pc := 870) C dL_law_870 ?_
  refine j_sld (pc := 871) C hX hbl hbA hv3 dL_law_871 ?_
  refine j_callVi (pc := 872) (As := [.int (xs (v4 + 1).toNatClampNeg), .int (xs (v4 + 2).toNatClampNeg), .int (xs (v4 + 3).toNatClampNeg)]) (rest := [.int rw1]) (ws' := (lww a k am km qo ko gM gnC gbC gnL gbL gnF gbF w1gnQ w1gbQ gE gtp glf gtr glh gov mW mC mL mR w1mQ mE mtb mnC mnL mnR mov w1mnQ mwr mwl mft w1mth mpl out)) C K (ci := 3) (q0 := 0) rfl rfl rfl (ctX3_command l D am km _ _ _ _ _ _ _ _ _ _ _ _ _ _ _ _ _ _ _ _ _ _ _ _ hmw1) gL_law_X3_command rfl rfl rfl hdyX3_command ⟨Nat.le_of_ble_eq_true rfl, Nat.le_of_ble_eq_true rfl⟩ ((List.range 7).map (fun i => 19 + i)) rfl (by decide) (jspB rfl rfl rfl) [6, 7, 8, 9, 10, 11] rfl rfl (Nat.le_of_ble_eq_true rfl) dL_law_872 ⟨by show 30 + j ≤ 600002; omega, by show 33300 + 6 * j ≤ 7302232; omega⟩ ?_
  refine j_icmp_eq (pc := 875) (tgt := 1030) C dL_law_875 (by decide) (fun _ => ?_) (fun h => absurd hew1 h)
  refine j_iinc (pc := 1030) (v := (v4 + 6)) (lv' := [(4, .int (v4 + 6)), (0, .ref b), (1, .ref (a 0)), (2, .ref (am 0)), (3, .ref qo)]) C 4 dL_law_1030 rfl rfl (by decide) rfl ?_
  refine j_goto (pc := 1033) (tgt := 23) C dL_law_1033 (by decide) ?_
  refine j_widen (k := 30 + (j + 1)) (n := 33300 + 6 * (j + 1)) (by omega) (by omega) ?_
  exact j_lv [1, 2, 3, 4, 0] rfl (ih (j + 1) _ _ _ _ _ _ _ _ _ _ _ _ _ _ _ _ _ _ _ _ _ _ _ _ _ _ _ _ _ _ _ _ _ _ (by omega) hv6 hIw1)
set_option maxHeartbeats 4000000 in
set_option maxRecDepth 100000 in
theorem lawc_obey {p : Program} {l : Launch} (hlt : l.stackTraces = false) {e : Env} {s : State} {m : MethodId} {below : List Frame} {meth : Method} {c : Code} {D : va_G} {b L : Nat} {xs : Nat → Int32} (hL : L ≤ 6) (C : jc p s m #[Value.ref b] c code 7 RL wsL_law (fun q : Nat => s.heap.size ≤ q)) (hr : meth.sig.returnType = ret) (hlk : meth.locks = false) (hX : va_X b L xs s s.heap) (hbl : b < s.heap.size) (hxw : xw s) (hxz : xz (fun q : Nat => s.heap.size ≤ q) s s.heap) {I : Nat → GS → MS → Prop} (S_obey : sm_obey I 1) (a : Nat → Nat) (k : Nat → ClassId) (am : Nat → Nat) (km : Nat → ClassId) (qo : Nat) (ko : ClassId) (K : jk D (ltt k km ko) s) (j : Nat) (hjL : j < 1) (hj6 : 6 * j + 6 ≤ L) (v4 : Int32) (hv : v4 = nI (6 * j)) (gM : Nat → Int32) (gnC : Int32) (gbC : Nat → Int32) (gnL : Int32) (gbL : Nat → Int32) (gnF : Int32) (gbF : Nat → Int32) (gnQ : Int32) (gbQ : Nat → Int32) (gE : Nat → Nat → Int32) (gtp : Int32) (glf : Int32) (gtr : Int32) (glh : Int32) (gov : Int32) (mW : Nat → Int32) (mC : Nat → Int32) (mL : Nat → Int32) (mR : Nat → Int32) (mQ : Nat → Int32) (mE : Nat → Int32) (mtb : Int32) (mnC : Int32) (mnL : Int32) (mnR : Int32) (mov : Int32) (mnQ : Int32) (mwr : Int32) (mwl : Int32) (mft : Int32) (mth : Int32) (mpl : Int32) (out : Nat → Int64) (hI : I j (gM, gnC, gbC, gnL, gbL, gnF, gbF, gnQ, gbQ, gE, gtp, glf, gtr, glh, gov) (mW, mC, mL, mR, mQ, mE, mtb, mnC, mnL, mnR, mov, mnQ, mwr, mwl, mft, mth, mpl))
    (ih : ∀ (j2 : Nat) (gM : Nat → Int32) (gnC : Int32) (gbC : Nat → Int32) (gnL : Int32) (gbL : Nat → Int32) (gnF : Int32) (gbF : Nat → Int32) (gnQ : Int32) (gbQ : Nat → Int32) (gE : Nat → Nat → Int32) (gtp : Int32) (glf : Int32) (gtr : Int32) (glh : Int32) (gov : Int32) (mW : Nat → Int32) (mC : Nat → Int32) (mL : Nat → Int32) (mR : Nat → Int32) (mQ : Nat → Int32) (mE : Nat → Int32) (mtb : Int32) (mnC : Int32) (mnL : Int32) (mnR : Int32) (mov : Int32) (mnQ : Int32) (mwr : Int32) (mwl : Int32) (mft : Int32) (mth : Int32) (mpl : Int32) (out : Nat → Int64) (v4 : Int32), j2 = j + 1 → v4 = nI (6 * j2) → I j2 (gM, gnC, gbC, gnL, gbL, gnF, gbF, gnQ, gbQ, gE, gtp, glf, gtr, glh, gov) (mW, mC, mL, mR, mQ, mE, mtb, mnC, mnL, mnR, mov, mnQ, mwr, mwl, mft, mth, mpl) → jw p l e room_1 s m #[Value.ref b] below meth c 7 D (fun q : Nat => s.heap.size ≤ q) (30 + j2) (33300 + 6 * j2) (lw_Z below #[Value.ref b] s) (lww a k am km qo ko gM gnC gbC gnL gbL gnF gbF gnQ gbQ gE gtp glf gtr glh gov mW mC mL mR mQ mE mtb mnC mnL mnR mov mnQ mwr mwl mft mth mpl out) [(0, .ref b), (1, .ref (a 0)), (2, .ref (am 0)), (3, .ref qo), (4, .int v4)] 23 []) :
    jw p l e room_1 s m #[Value.ref b] below meth c 7 D (fun q : Nat => s.heap.size ≤ q) (30 + j) (33300 + 6 * j) (lw_Z below #[Value.ref b] s) (lww a k am km qo ko gM gnC gbC gnL gbL gnF gbF gnQ gbQ gE gtp glf gtr glh gov mW mC mL mR mQ mE mtb mnC mnL mnR mov mnQ mwr mwl mft mth mpl out) [(0, .ref b), (1, .ref (a 0)), (2, .ref (am 0)), (3, .ref qo), (4, .int v4)] 880 [] := by
  have hbA : ¬ (fun q : Nat => s.heap.size ≤ q) b := Nat.not_le.mpr hbl
  have hv1 : vp_in (v4 + 1) L := by rw [hv]; exact lawin hj6 (by omega) (k := 1) rfl (by omega)
  have hv2 : vp_in (v4 + 2) L := by rw [hv]; exact lawin hj6 (by omega) (k := 2) rfl (by omega)
  have hv3 : vp_in (v4 + 3) L := by rw [hv]; exact lawin hj6 (by omega) (k := 3) rfl (by omega)
  have hv4 : vp_in (v4 + 4) L := by rw [hv]; exact lawin hj6 (by omega) (k := 4) rfl (by omega)
  have hv5 : vp_in (v4 + 5) L := by rw [hv]; exact lawin hj6 (by omega) (k := 5) rfl (by omega)
  have hv6 : v4 + 6 = nI (6 * (j + 1)) := by rw [hv]; exact lawsix j
  refine j_aload_n (pc := 880) C 1 dL_law_880 rfl rfl ?_
  refine j_aload_n (pc := 881) C 0 dL_law_881 rfl rfl ?_
  refine j_iload (pc := 882) C 4 dL_law_882 rfl ?_
  refine j_iconst (pc := 884) (v := 1) C dL_law_884 (by decide) ?_
  refine j_iadd (pc := 885) C dL_law_885 ?_
  refine j_sld (pc := 886) C hX hbl hbA hv1 dL_law_886 ?_
  obtain ⟨rw1, rmw1, w1gM, w1gnC, w1gbC, w1gnL, w1gbL, w1gnQ, w1gbQ, w1mW, w1mC, w1mL, w1mQ, w1mnC, w1mnL, w1mnQ, w1mth, hw1, hmw1, hew1, hIw1⟩ := S_obey j _ _ _ _ _ _ _ _ _ _ _ _ _ _ _ _ _ _ _ _ _ _ _ _ _ _ _ _ _ _ _ _ (xs (v4 + 1).toNatClampNeg) hjL hI
  refine j_callVi (pc := 887) (As := [.int (xs (v4 + 1).toNatClampNeg)]) (rest := []) (ws' := (lww a k am km qo ko w1gM w1gnC w1gbC w1gnL w1gbL gnF gbF w1gnQ w1gbQ gE gtp glf gtr glh gov mW mC mL mR mQ mE mtb mnC mnL mnR mov mnQ mwr mwl mft mth mpl out)) C K (ci := 2) (q0 := 0) rfl rfl rfl (ctX2_obey l D a k _ _ _ _ _ _ _ _ _ _ _ _ _ _ _ _ _ _ _ _ _ _ _ _ hw1) gL_law_X2_obey rfl rfl rfl hdyX2_obey ⟨Nat.le_of_ble_eq_true rfl, Nat.le_of_ble_eq_true rfl⟩ (List.range 19) rfl (by decide) (jspA rfl rfl) [0, 1, 2, 3, 4, 5] rfl rfl (Nat.le_of_ble_eq_true rfl) dL_law_887 ⟨by show 30 + j ≤ 600002; omega, by show 33300 + 6 * j ≤ 7302232; omega⟩ ?_
  refine j_aload_n (pc := 890) C 2 dL_law_890 rfl rfl ?_
  refine j_aload_n (pc := 891) C 0 dL_law_891 rfl rfl ?_
  refine j_iload (pc := 892) C 4 dL_law_892 rfl ?_
  refine j_iconst (pc := 894) (v := 1) C dL_law_894 (by decide) ?_
  refine j_iadd (pc := 895) C dL_law_895 ?_
  refine j_sld (pc := 896) C hX hbl hbA hv1 dL_law_896 ?_
  refine j_callVi (pc := 897) (As := [.int (xs (v4 + 1).toNatClampNeg)]) (rest := [.int rw1]) (ws' := (lww a k am km qo ko w1gM w1gnC w1gbC w1gnL w1gbL gnF gbF w1gnQ w1gbQ gE gtp glf gtr glh gov w1mW w1mC w1mL mR w1mQ mE mtb w1mnC w1mnL mnR mov w1mnQ mwr mwl mft w1mth mpl out)) C K (ci := 3) (q0 := 0) rfl rfl rfl (ctX3_obey l D am km _ _ _ _ _ _ _ _ _ _ _ _ _ _ _ _ _ _ _ _ _ _ _ _ _ _ _ hmw1) gL_law_X3_obey rfl rfl rfl hdyX3_obey ⟨Nat.le_of_ble_eq_true rfl, Nat.le_of_ble_eq_true rfl⟩ ((List.range 7).map (fun i => 19 + i)) rfl (by decide) (jspB rfl rfl rfl) [6, 7, 8, 9, 10, 11] rfl rfl (Nat.le_of_ble_eq_true rfl) dL_law_897 ⟨by show 30 + j ≤ 600002; omega, by show 33300 + 6 * j ≤ 7302232; omega⟩ ?_
  refine j_icmp_eq (pc := 900) (tgt := 1030) C dL_law_900 (by decide) (fun _ => ?_) (fun h => absurd hew1 h)
  refine j_iinc (pc := 1030) (v := (v4 + 6)) (lv' := [(4, .int (v4 + 6)), (0, .ref b), (1, .ref (a 0)), (2, .ref (am 0)), (3, .ref qo)]) C 4 dL_law_1030 rfl rfl (by decide) rfl ?_
  refine j_goto (pc := 1033) (tgt := 23) C dL_law_1033 (by decide) ?_
  refine j_widen (k := 30 + (j + 1)) (n := 33300 + 6 * (j + 1)) (by omega) (by omega) ?_
  exact j_lv [1, 2, 3, 4, 0] rfl (ih (j + 1) _ _ _ _ _ _ _ _ _ _ _ _ _ _ _ _ _ _ _ _ _ _ _ _ _ _ _ _ _ _ _ _ _ _ (by omega) hv6 hIw1)
set_option maxHeartbeats 4000000 in
set_option maxRecDepth 100000 in
theorem lawc_count {p : Program} {l : Launch} (hlt : l.stackTraces = false) {e : Env} {s : State} {m : MethodId} {below : List Frame} {meth : Method} {c : Code} {D : va_G} {b L : Nat} {xs : Nat → Int32} (hL : L ≤ 6) (C : jc p s m #[Value.ref b] c code 7 RL wsL_law (fun q : Nat => s.heap.size ≤ q)) (hr : meth.sig.returnType = ret) (hlk : meth.locks = false) (hX : va_X b L xs s s.heap) (hbl : b < s.heap.size) (hxw : xw s) (hxz : xz (fun q : Nat => s.heap.size ≤ q) s s.heap) {I : Nat → GS → MS → Prop} (S_count : sm_count I 1) (a : Nat → Nat) (k : Nat → ClassId) (am : Nat → Nat) (km : Nat → ClassId) (qo : Nat) (ko : ClassId) (K : jk D (ltt k km ko) s) (j : Nat) (hjL : j < 1) (hj6 : 6 * j + 6 ≤ L) (v4 : Int32) (hv : v4 = nI (6 * j)) (gM : Nat → Int32) (gnC : Int32) (gbC : Nat → Int32) (gnL : Int32) (gbL : Nat → Int32) (gnF : Int32) (gbF : Nat → Int32) (gnQ : Int32) (gbQ : Nat → Int32) (gE : Nat → Nat → Int32) (gtp : Int32) (glf : Int32) (gtr : Int32) (glh : Int32) (gov : Int32) (mW : Nat → Int32) (mC : Nat → Int32) (mL : Nat → Int32) (mR : Nat → Int32) (mQ : Nat → Int32) (mE : Nat → Int32) (mtb : Int32) (mnC : Int32) (mnL : Int32) (mnR : Int32) (mov : Int32) (mnQ : Int32) (mwr : Int32) (mwl : Int32) (mft : Int32) (mth : Int32) (mpl : Int32) (out : Nat → Int64) (hI : I j (gM, gnC, gbC, gnL, gbL, gnF, gbF, gnQ, gbQ, gE, gtp, glf, gtr, glh, gov) (mW, mC, mL, mR, mQ, mE, mtb, mnC, mnL, mnR, mov, mnQ, mwr, mwl, mft, mth, mpl))
    (ih : ∀ (j2 : Nat) (gM : Nat → Int32) (gnC : Int32) (gbC : Nat → Int32) (gnL : Int32) (gbL : Nat → Int32) (gnF : Int32) (gbF : Nat → Int32) (gnQ : Int32) (gbQ : Nat → Int32) (gE : Nat → Nat → Int32) (gtp : Int32) (glf : Int32) (gtr : Int32) (glh : Int32) (gov : Int32) (mW : Nat → Int32) (mC : Nat → Int32) (mL : Nat → Int32) (mR : Nat → Int32) (mQ : Nat → Int32) (mE : Nat → Int32) (mtb : Int32) (mnC : Int32) (mnL : Int32) (mnR : Int32) (mov : Int32) (mnQ : Int32) (mwr : Int32) (mwl : Int32) (mft : Int32) (mth : Int32) (mpl : Int32) (out : Nat → Int64) (v4 : Int32), j2 = j + 1 → v4 = nI (6 * j2) → I j2 (gM, gnC, gbC, gnL, gbL, gnF, gbF, gnQ, gbQ, gE, gtp, glf, gtr, glh, gov) (mW, mC, mL, mR, mQ, mE, mtb, mnC, mnL, mnR, mov, mnQ, mwr, mwl, mft, mth, mpl) → jw p l e room_1 s m #[Value.ref b] below meth c 7 D (fun q : Nat => s.heap.size ≤ q) (30 + j2) (33300 + 6 * j2) (lw_Z below #[Value.ref b] s) (lww a k am km qo ko gM gnC gbC gnL gbL gnF gbF gnQ gbQ gE gtp glf gtr glh gov mW mC mL mR mQ mE mtb mnC mnL mnR mov mnQ mwr mwl mft mth mpl out) [(0, .ref b), (1, .ref (a 0)), (2, .ref (am 0)), (3, .ref qo), (4, .int v4)] 23 []) :
    jw p l e room_1 s m #[Value.ref b] below meth c 7 D (fun q : Nat => s.heap.size ≤ q) (30 + j) (33300 + 6 * j) (lw_Z below #[Value.ref b] s) (lww a k am km qo ko gM gnC gbC gnL gbL gnF gbF gnQ gbQ gE gtp glf gtr glh gov mW mC mL mR mQ mE mtb mnC mnL mnR mov mnQ mwr mwl mft mth mpl out) [(0, .ref b), (1, .ref (a 0)), (2, .ref (am 0)), (3, .ref qo), (4, .int v4)] 905 [] := by
  have hbA : ¬ (fun q : Nat => s.heap.size ≤ q) b := Nat.not_le.mpr hbl
  have hv1 : vp_in (v4 + 1) L := by rw [hv]; exact lawin hj6 (by omega) (k := 1) rfl (by omega)
  have hv2 : vp_in (v4 + 2) L := by rw [hv]; exact lawin hj6 (by omega) (k := 2) rfl (by omega)
  have hv3 : vp_in (v4 + 3) L := by rw [hv]; exact lawin hj6 (by omega) (k := 3) rfl (by omega)
  have hv4 : vp_in (v4 + 4) L := by rw [hv]; exact lawin hj6 (by omega) (k := 4) rfl (by omega)
  have hv5 : vp_in (v4 + 5) L := by rw [hv]; exact lawin hj6 (by omega) (k := 5) rfl (by omega)
  have hv6 : v4 + 6 = nI (6 * (j + 1)) := by rw [hv]; exact lawsix j
  refine j_aload_n (pc := 905) C 1 dL_law_905 rfl rfl ?_
  refine j_aload_n (pc := 906) C 0 dL_law_906 rfl rfl ?_
  refine j_iload (pc := 907) C 4 dL_law_907 rfl ?_
  refine j_iconst (pc := 909) (v := 1) C dL_law_909 (by decide) ?_
  refine j_iadd (pc := 910) C dL_law_910 ?_
  refine j_sld (pc := 911) C hX hbl hbA hv1 dL_law_911 ?_
  obtain ⟨rw1, rmw1, w1mth, hw1, hmw1, hew1, hIw1⟩ := S_count j _ _ _ _ _ _ _ _ _ _ _ _ _ _ _ _ _ _ _ _ _ _ _ _ _ _ _ _ _ _ _ _ (xs (v4 + 1).toNatClampNeg) hjL hI
  refine j_callVi (pc := 912) (As := [.int (xs (v4 + 1).toNatClampNeg)]) (rest := []) (ws' := (lww a k am km qo ko gM gnC gbC gnL gbL gnF gbF gnQ gbQ gE gtp glf gtr glh gov mW mC mL mR mQ mE mtb mnC mnL mnR mov mnQ mwr mwl mft mth mpl out)) C K (ci := 2) (q0 := 0) rfl rfl rfl (ctX2_count l D a k _ _ _ _ _ _ _ _ _ _ _ _ _ _ _ _ _ hw1) gL_law_X2_count rfl rfl rfl hdyX2_count ⟨Nat.le_of_ble_eq_true rfl, Nat.le_of_ble_eq_true rfl⟩ (List.range 19) rfl (by decide) (jspA rfl rfl) [0, 1, 2, 3, 4, 5] rfl rfl (Nat.le_of_ble_eq_true rfl) dL_law_912 ⟨by show 30 + j ≤ 600002; omega, by show 33300 + 6 * j ≤ 7302232; omega⟩ ?_
  refine j_aload_n (pc := 915) C 2 dL_law_915 rfl rfl ?_
  refine j_aload_n (pc := 916) C 0 dL_law_916 rfl rfl ?_
  refine j_iload (pc := 917) C 4 dL_law_917 rfl ?_
  refine j_iconst (pc := 919) (v := 1) C dL_law_919 (by decide) ?_
  refine j_iadd (pc := 920) C dL_law_920 ?_
  refine j_sld (pc := 921) C hX hbl hbA hv1 dL_law_921 ?_
  refine j_callVi (pc := 922) (As := [.int (xs (v4 + 1).toNatClampNeg)]) (rest := [.int rw1]) (ws' := (lww a k am km qo ko gM gnC gbC gnL gbL gnF gbF gnQ gbQ gE gtp glf gtr glh gov mW mC mL mR mQ mE mtb mnC mnL mnR mov mnQ mwr mwl mft w1mth mpl out)) C K (ci := 3) (q0 := 0) rfl rfl rfl (ctX3_count l D am km _ _ _ _ _ _ _ _ _ _ _ _ _ _ _ _ _ _ _ _ hmw1) gL_law_X3_count rfl rfl rfl hdyX3_count ⟨Nat.le_of_ble_eq_true rfl, Nat.le_of_ble_eq_true rfl⟩ ((List.range 7).map (fun i => 19 + i)) rfl (by decide) (jspB rfl rfl rfl) [6, 7, 8, 9, 10, 11] rfl rfl (Nat.le_of_ble_eq_true rfl) dL_law_922 ⟨by show 30 + j ≤ 600002; omega, by show 33300 + 6 * j ≤ 7302232; omega⟩ ?_
  refine j_icmp_eq (pc := 925) (tgt := 1030) C dL_law_925 (by decide) (fun _ => ?_) (fun h => absurd hew1 h)
  refine j_iinc (pc := 1030) (v := (v4 + 6)) (lv' := [(4, .int (v4 + 6)), (0, .ref b), (1, .ref (a 0)), (2, .ref (am 0)), (3, .ref qo)]) C 4 dL_law_1030 rfl rfl (by decide) rfl ?_
  refine j_goto (pc := 1033) (tgt := 23) C dL_law_1033 (by decide) ?_
  refine j_widen (k := 30 + (j + 1)) (n := 33300 + 6 * (j + 1)) (by omega) (by omega) ?_
  exact j_lv [1, 2, 3, 4, 0] rfl (ih (j + 1) _ _ _ _ _ _ _ _ _ _ _ _ _ _ _ _ _ _ _ _ _ _ _ _ _ _ _ _ _ _ _ _ _ _ (by omega) hv6 hIw1)
set_option maxHeartbeats 4000000 in
set_option maxRecDepth 100000 in
theorem lawc_record {p : Program} {l : Launch} (hlt : l.stackTraces = false) {e : Env} {s : State} {m : MethodId} {below : List Frame} {meth : Method} {c : Code} {D : va_G} {b L : Nat} {xs : Nat → Int32} (hL : L ≤ 6) (C : jc p s m #[Value.ref b] c code 7 RL wsL_law (fun q : Nat => s.heap.size ≤ q)) (hr : meth.sig.returnType = ret) (hlk : meth.locks = false) (hX : va_X b L xs s s.heap) (hbl : b < s.heap.size) (hxw : xw s) (hxz : xz (fun q : Nat => s.heap.size ≤ q) s s.heap) {I : Nat → GS → MS → Prop} (S_record : sm_record I 1) (a : Nat → Nat) (k : Nat → ClassId) (am : Nat → Nat) (km : Nat → ClassId) (qo : Nat) (ko : ClassId) (K : jk D (ltt k km ko) s) (j : Nat) (hjL : j < 1) (hj6 : 6 * j + 6 ≤ L) (v4 : Int32) (hv : v4 = nI (6 * j)) (gM : Nat → Int32) (gnC : Int32) (gbC : Nat → Int32) (gnL : Int32) (gbL : Nat → Int32) (gnF : Int32) (gbF : Nat → Int32) (gnQ : Int32) (gbQ : Nat → Int32) (gE : Nat → Nat → Int32) (gtp : Int32) (glf : Int32) (gtr : Int32) (glh : Int32) (gov : Int32) (mW : Nat → Int32) (mC : Nat → Int32) (mL : Nat → Int32) (mR : Nat → Int32) (mQ : Nat → Int32) (mE : Nat → Int32) (mtb : Int32) (mnC : Int32) (mnL : Int32) (mnR : Int32) (mov : Int32) (mnQ : Int32) (mwr : Int32) (mwl : Int32) (mft : Int32) (mth : Int32) (mpl : Int32) (out : Nat → Int64) (hI : I j (gM, gnC, gbC, gnL, gbL, gnF, gbF, gnQ, gbQ, gE, gtp, glf, gtr, glh, gov) (mW, mC, mL, mR, mQ, mE, mtb, mnC, mnL, mnR, mov, mnQ, mwr, mwl, mft, mth, mpl))
    (ih : ∀ (j2 : Nat) (gM : Nat → Int32) (gnC : Int32) (gbC : Nat → Int32) (gnL : Int32) (gbL : Nat → Int32) (gnF : Int32) (gbF : Nat → Int32) (gnQ : Int32) (gbQ : Nat → Int32) (gE : Nat → Nat → Int32) (gtp : Int32) (glf : Int32) (gtr : Int32) (glh : Int32) (gov : Int32) (mW : Nat → Int32) (mC : Nat → Int32) (mL : Nat → Int32) (mR : Nat → Int32) (mQ : Nat → Int32) (mE : Nat → Int32) (mtb : Int32) (mnC : Int32) (mnL : Int32) (mnR : Int32) (mov : Int32) (mnQ : Int32) (mwr : Int32) (mwl : Int32) (mft : Int32) (mth : Int32) (mpl : Int32) (out : Nat → Int64) (v4 : Int32), j2 = j + 1 → v4 = nI (6 * j2) → I j2 (gM, gnC, gbC, gnL, gbL, gnF, gbF, gnQ, gbQ, gE, gtp, glf, gtr, glh, gov) (mW, mC, mL, mR, mQ, mE, mtb, mnC, mnL, mnR, mov, mnQ, mwr, mwl, mft, mth, mpl) → jw p l e room_1 s m #[Value.ref b] below meth c 7 D (fun q : Nat => s.heap.size ≤ q) (30 + j2) (33300 + 6 * j2) (lw_Z below #[Value.ref b] s) (lww a k am km qo ko gM gnC gbC gnL gbL gnF gbF gnQ gbQ gE gtp glf gtr glh gov mW mC mL mR mQ mE mtb mnC mnL mnR mov mnQ mwr mwl mft mth mpl out) [(0, .ref b), (1, .ref (a 0)), (2, .ref (am 0)), (3, .ref qo), (4, .int v4)] 23 []) :
    jw p l e room_1 s m #[Value.ref b] below meth c 7 D (fun q : Nat => s.heap.size ≤ q) (30 + j) (33300 + 6 * j) (lw_Z below #[Value.ref b] s) (lww a k am km qo ko gM gnC gbC gnL gbL gnF gbF gnQ gbQ gE gtp glf gtr glh gov mW mC mL mR mQ mE mtb mnC mnL mnR mov mnQ mwr mwl mft mth mpl out) [(0, .ref b), (1, .ref (a 0)), (2, .ref (am 0)), (3, .ref qo), (4, .int v4)] 930 [] := by
  have hbA : ¬ (fun q : Nat => s.heap.size ≤ q) b := Nat.not_le.mpr hbl
  have hv1 : vp_in (v4 + 1) L := by rw [hv]; exact lawin hj6 (by omega) (k := 1) rfl (by omega)
  have hv2 : vp_in (v4 + 2) L := by rw [hv]; exact lawin hj6 (by omega) (k := 2) rfl (by omega)
  have hv3 : vp_in (v4 + 3) L := by rw [hv]; exact lawin hj6 (by omega) (k := 3) rfl (by omega)
  have hv4 : vp_in (v4 + 4) L := by rw [hv]; exact lawin hj6 (by omega) (k := 4) rfl (by omega)
  have hv5 : vp_in (v4 + 5) L := by rw [hv]; exact lawin hj6 (by omega) (k := 5) rfl (by omega)
  have hv6 : v4 + 6 = nI (6 * (j + 1)) := by rw [hv]; exact lawsix j
  refine j_aload_n (pc := 930) C 1 dL_law_930 rfl rfl ?_
  refine j_aload_n (pc := 931) C 0 dL_law_931 rfl rfl ?_
  refine j_iload (pc := 932) C 4 dL_law_932 rfl ?_
  refine j_iconst (pc := 934) (v := 1) C dL_law_934 (by decide) ?_
  refine j_iadd (pc := 935) C dL_law_935 ?_
  refine j_sld (pc := 936) C hX hbl hbA hv1 dL_law_936 ?_
  refine j_aload_n (pc := 937) C 0 dL_law_937 rfl rfl ?_
  refine j_iload (pc := 938) C 4 dL_law_938 rfl ?_
  refine j_iconst (pc := 940) (v := 2) C dL_law_940 (by decide) ?_
  refine j_iadd (pc := 941) C dL_law_941 ?_
  refine j_sld (pc := 942) C hX hbl hbA hv2 dL_law_942 ?_
  obtain ⟨rw1, rmw1, w1mth, hw1, hmw1, hew1, hIw1⟩ := S_record j _ _ _ _ _ _ _ _ _ _ _ _ _ _ _ _ _ _ _ _ _ _ _ _ _ _ _ _ _ _ _ _ (xs (v4 + 1).toNatClampNeg) (xs (v4 + 2).toNatClampNeg) hjL hI
  refine j_callVi (pc := 943) (As := [.int (xs (v4 + 1).toNatClampNeg), .int (xs (v4 + 2).toNatClampNeg)]) (rest := []) (ws' := (lww a k am km qo ko gM gnC gbC gnL gbL gnF gbF gnQ gbQ gE gtp glf gtr glh gov mW mC mL mR mQ mE mtb mnC mnL mnR mov mnQ mwr mwl mft mth mpl out)) C K (ci := 2) (q0 := 0) rfl rfl rfl (ctX2_record l D a k _ _ _ _ _ _ _ _ _ _ _ _ _ _ _ _ _ _ hw1) gL_law_X2_record rfl rfl rfl hdyX2_record ⟨Nat.le_of_ble_eq_true rfl, Nat.le_of_ble_eq_true rfl⟩ (List.range 19) rfl (by decide) (jspA rfl rfl) [0, 1, 2, 3, 4, 5] rfl rfl (Nat.le_of_ble_eq_true rfl) dL_law_943 ⟨by show 30 + j ≤ 600002; omega, by show 33300 + 6 * j ≤ 7302232; omega⟩ ?_
  refine j_aload_n (pc := 946) C 2 dL_law_946 rfl rfl ?_
  refine j_aload_n (pc := 947) C 0 dL_law_947 rfl rfl ?_
  refine j_iload (pc := 948) C 4 dL_law_948 rfl ?_
  refine j_iconst (pc := 950) (v := 1) C dL_law_950 (by decide) ?_
  refine j_iadd (pc := 951) C dL_law_951 ?_
  refine j_sld (pc := 952) C hX hbl hbA hv1 dL_law_952 ?_
  refine j_aload_n (pc := 953) C 0 dL_law_953 rfl rfl ?_
  refine j_iload (pc := 954) C 4 dL_law_954 rfl ?_
  refine j_iconst (pc := 956) (v := 2) C dL_law_956 (by decide) ?_
  refine j_iadd (pc := 957) C dL_law_957 ?_
  refine j_sld (pc := 958) C hX hbl hbA hv2 dL_law_958 ?_
  refine j_callVi (pc := 959) (As := [.int (xs (v4 + 1).toNatClampNeg), .int (xs (v4 + 2).toNatClampNeg)]) (rest := [.int rw1]) (ws' := (lww a k am km qo ko gM gnC gbC gnL gbL gnF gbF gnQ gbQ gE gtp glf gtr glh gov mW mC mL mR mQ mE mtb mnC mnL mnR mov mnQ mwr mwl mft w1mth mpl out)) C K (ci := 3) (q0 := 0) rfl rfl rfl (ctX3_record l D am km _ _ _ _ _ _ _ _ _ _ _ _ _ _ _ _ _ _ _ _ _ hmw1) gL_law_X3_record rfl rfl rfl hdyX3_record ⟨Nat.le_of_ble_eq_true rfl, Nat.le_of_ble_eq_true rfl⟩ ((List.range 7).map (fun i => 19 + i)) rfl (by decide) (jspB rfl rfl rfl) [6, 7, 8, 9, 10, 11] rfl rfl (Nat.le_of_ble_eq_true rfl) dL_law_959 ⟨by show 30 + j ≤ 600002; omega, by show 33300 + 6 * j ≤ 7302232; omega⟩ ?_
  refine j_icmp_eq (pc := 962) (tgt := 1030) C dL_law_962 (by decide) (fun _ => ?_) (fun h => absurd hew1 h)
  refine j_iinc (pc := 1030) (v := (v4 + 6)) (lv' := [(4, .int (v4 + 6)), (0, .ref b), (1, .ref (a 0)), (2, .ref (am 0)), (3, .ref qo)]) C 4 dL_law_1030 rfl rfl (by decide) rfl ?_
  refine j_goto (pc := 1033) (tgt := 23) C dL_law_1033 (by decide) ?_
  refine j_widen (k := 30 + (j + 1)) (n := 33300 + 6 * (j + 1)) (by omega) (by omega) ?_
  exact j_lv [1, 2, 3, 4, 0] rfl (ih (j + 1) _ _ _ _ _ _ _ _ _ _ _ _ _ _ _ _ _ _ _ _ _ _ _ _ _ _ _ _ _ _ _ _ _ _ (by omega) hv6 hIw1)
set_option maxHeartbeats 4000000 in
set_option maxRecDepth 100000 in
theorem lawc_drop {p : Program} {l : Launch} (hlt : l.stackTraces = false) {e : Env} {s : State} {m : MethodId} {below : List Frame} {meth : Method} {c : Code} {D : va_G} {b L : Nat} {xs : Nat → Int32} (hL : L ≤ 6) (C : jc p s m #[Value.ref b] c code 7 RL wsL_law (fun q : Nat => s.heap.size ≤ q)) (hr : meth.sig.returnType = ret) (hlk : meth.locks = false) (hX : va_X b L xs s s.heap) (hbl : b < s.heap.size) (hxw : xw s) (hxz : xz (fun q : Nat => s.heap.size ≤ q) s s.heap) {I : Nat → GS → MS → Prop} (S_drop : sm_drop I 1) (a : Nat → Nat) (k : Nat → ClassId) (am : Nat → Nat) (km : Nat → ClassId) (qo : Nat) (ko : ClassId) (K : jk D (ltt k km ko) s) (j : Nat) (hjL : j < 1) (hj6 : 6 * j + 6 ≤ L) (v4 : Int32) (hv : v4 = nI (6 * j)) (gM : Nat → Int32) (gnC : Int32) (gbC : Nat → Int32) (gnL : Int32) (gbL : Nat → Int32) (gnF : Int32) (gbF : Nat → Int32) (gnQ : Int32) (gbQ : Nat → Int32) (gE : Nat → Nat → Int32) (gtp : Int32) (glf : Int32) (gtr : Int32) (glh : Int32) (gov : Int32) (mW : Nat → Int32) (mC : Nat → Int32) (mL : Nat → Int32) (mR : Nat → Int32) (mQ : Nat → Int32) (mE : Nat → Int32) (mtb : Int32) (mnC : Int32) (mnL : Int32) (mnR : Int32) (mov : Int32) (mnQ : Int32) (mwr : Int32) (mwl : Int32) (mft : Int32) (mth : Int32) (mpl : Int32) (out : Nat → Int64) (hI : I j (gM, gnC, gbC, gnL, gbL, gnF, gbF, gnQ, gbQ, gE, gtp, glf, gtr, glh, gov) (mW, mC, mL, mR, mQ, mE, mtb, mnC, mnL, mnR, mov, mnQ, mwr, mwl, mft, mth, mpl))
    (ih : ∀ (j2 : Nat) (gM : Nat → Int32) (gnC : Int32) (gbC : Nat → Int32) (gnL : Int32) (gbL : Nat → Int32) (gnF : Int32) (gbF : Nat → Int32) (gnQ : Int32) (gbQ : Nat → Int32) (gE : Nat → Nat → Int32) (gtp : Int32) (glf : Int32) (gtr : Int32) (glh : Int32) (gov : Int32) (mW : Nat → Int32) (mC : Nat → Int32) (mL : Nat → Int32) (mR : Nat → Int32) (mQ : Nat → Int32) (mE : Nat → Int32) (mtb : Int32) (mnC : Int32) (mnL : Int32) (mnR : Int32) (mov : Int32) (mnQ : Int32) (mwr : Int32) (mwl : Int32) (mft : Int32) (mth : Int32) (mpl : Int32) (out : Nat → Int64) (v4 : Int32), j2 = j + 1 → v4 = nI (6 * j2) → I j2 (gM, gnC, gbC, gnL, gbL, gnF, gbF, gnQ, gbQ, gE, gtp, glf, gtr, glh, gov) (mW, mC, mL, mR, mQ, mE, mtb, mnC, mnL, mnR, mov, mnQ, mwr, mwl, mft, mth, mpl) → jw p l e room_1 s m #[Value.ref b] below meth c 7 D (fun q : Nat => s.heap.size ≤ q) (30 + j2) (33300 + 6 * j2) (lw_Z below #[Value.ref b] s) (lww a k am km qo ko gM gnC gbC gnL gbL gnF gbF gnQ gbQ gE gtp glf gtr glh gov mW mC mL mR mQ mE mtb mnC mnL mnR mov mnQ mwr mwl mft mth mpl out) [(0, .ref b), (1, .ref (a 0)), (2, .ref (am 0)), (3, .ref qo), (4, .int v4)] 23 []) :
    jw p l e room_1 s m #[Value.ref b] below meth c 7 D (fun q : Nat => s.heap.size ≤ q) (30 + j) (33300 + 6 * j) (lw_Z below #[Value.ref b] s) (lww a k am km qo ko gM gnC gbC gnL gbL gnF gbF gnQ gbQ gE gtp glf gtr glh gov mW mC mL mR mQ mE mtb mnC mnL mnR mov mnQ mwr mwl mft mth mpl out) [(0, .ref b), (1, .ref (a 0)), (2, .ref (am 0)), (3, .ref qo), (4, .int v4)] 967 [] := by
  have hbA : ¬ (fun q : Nat => s.heap.size ≤ q) b := Nat.not_le.mpr hbl
  have hv1 : vp_in (v4 + 1) L := by rw [hv]; exact lawin hj6 (by omega) (k := 1) rfl (by omega)
  have hv2 : vp_in (v4 + 2) L := by rw [hv]; exact lawin hj6 (by omega) (k := 2) rfl (by omega)
  have hv3 : vp_in (v4 + 3) L := by rw [hv]; exact lawin hj6 (by omega) (k := 3) rfl (by omega)
  have hv4 : vp_in (v4 + 4) L := by rw [hv]; exact lawin hj6 (by omega) (k := 4) rfl (by omega)
  have hv5 : vp_in (v4 + 5) L := by rw [hv]; exact lawin hj6 (by omega) (k := 5) rfl (by omega)
  have hv6 : v4 + 6 = nI (6 * (j + 1)) := by rw [hv]; exact lawsix j
  refine j_aload_n (pc := 967) C 1 dL_law_967 rfl rfl ?_
  obtain ⟨rw1, rmw1, w1gnF, w1gbF, w1mR, w1mnR, w1mth, hw1, hmw1, hew1, hIw1⟩ := S_drop j _ _ _ _ _ _ _ _ _ _ _ _ _ _ _ _ _ _ _ _ _ _ _ _ _ _ _ _ _ _ _ _ hjL hI
  refine j_callVi (pc := 968) (As := []) (rest := []) (ws' := (lww a k am km qo ko gM gnC gbC gnL gbL w1gnF w1gbF gnQ gbQ gE gtp glf gtr glh gov mW mC mL mR mQ mE mtb mnC mnL mnR mov mnQ mwr mwl mft mth mpl out)) C K (ci := 2) (q0 := 0) rfl rfl rfl (ctX2_drop l D a k _ _ _ _ _ _ _ _ _ _ _ _ _ _ _ _ _ _ hw1) gL_law_X2_drop rfl rfl rfl hdyX2_drop ⟨Nat.le_of_ble_eq_true rfl, Nat.le_of_ble_eq_true rfl⟩ (List.range 19) rfl (by decide) (jspA rfl rfl) [0, 1, 2, 3, 4, 5] rfl rfl (Nat.le_of_ble_eq_true rfl) dL_law_968 ⟨by show 30 + j ≤ 600002; omega, by show 33300 + 6 * j ≤ 7302232; omega⟩ ?_
  refine j_aload_n (pc := 971) C 2 dL_law_971 rfl rfl ?_
  refine j_callVi (pc := 972) (As := []) (rest := [.int rw1]) (ws' := (lww a k am km qo ko gM gnC gbC gnL gbL w1gnF w1gbF gnQ gbQ gE gtp glf gtr glh gov mW mC mL w1mR mQ mE mtb mnC mnL w1mnR mov mnQ mwr mwl mft w1mth mpl out)) C K (ci := 3) (q0 := 0) rfl rfl rfl (ctX3_drop l D am km _ _ _ _ _ _ _ _ _ _ _ _ _ _ _ _ _ _ _ _ _ hmw1) gL_law_X3_drop rfl rfl rfl hdyX3_drop ⟨Nat.le_of_ble_eq_true rfl, Nat.le_of_ble_eq_true rfl⟩ ((List.range 7).map (fun i => 19 + i)) rfl (by decide) (jspB rfl rfl rfl) [6, 7, 8, 9, 10, 11] rfl rfl (Nat.le_of_ble_eq_true rfl) dL_law_972 ⟨by show 30 + j ≤ 600002; omega, by show 33300 + 6 * j ≤ 7302232; omega⟩ ?_
  refine j_icmp_eq (pc := 975) (tgt := 1030) C dL_law_975 (by decide) (fun _ => ?_) (fun h => absurd hew1 h)
  refine j_iinc (pc := 1030) (v := (v4 + 6)) (lv' := [(4, .int (v4 + 6)), (0, .ref b), (1, .ref (a 0)), (2, .ref (am 0)), (3, .ref qo)]) C 4 dL_law_1030 rfl rfl (by decide) rfl ?_
  refine j_goto (pc := 1033) (tgt := 23) C dL_law_1033 (by decide) ?_
  refine j_widen (k := 30 + (j + 1)) (n := 33300 + 6 * (j + 1)) (by omega) (by omega) ?_
  exact j_lv [1, 2, 3, 4, 0] rfl (ih (j + 1) _ _ _ _ _ _ _ _ _ _ _ _ _ _ _ _ _ _ _ _ _ _ _ _ _ _ _ _ _ _ _ _ _ _ (by omega) hv6 hIw1)
set_option maxHeartbeats 4000000 in
set_option maxRecDepth 100000 in
theorem lawc_clear {p : Program} {l : Launch} (hlt : l.stackTraces = false) {e : Env} {s : State} {m : MethodId} {below : List Frame} {meth : Method} {c : Code} {D : va_G} {b L : Nat} {xs : Nat → Int32} (hL : L ≤ 6) (C : jc p s m #[Value.ref b] c code 7 RL wsL_law (fun q : Nat => s.heap.size ≤ q)) (hr : meth.sig.returnType = ret) (hlk : meth.locks = false) (hX : va_X b L xs s s.heap) (hbl : b < s.heap.size) (hxw : xw s) (hxz : xz (fun q : Nat => s.heap.size ≤ q) s s.heap) {I : Nat → GS → MS → Prop} (S_clear : sm_clear I 1) (a : Nat → Nat) (k : Nat → ClassId) (am : Nat → Nat) (km : Nat → ClassId) (qo : Nat) (ko : ClassId) (K : jk D (ltt k km ko) s) (j : Nat) (hjL : j < 1) (hj6 : 6 * j + 6 ≤ L) (v4 : Int32) (hv : v4 = nI (6 * j)) (gM : Nat → Int32) (gnC : Int32) (gbC : Nat → Int32) (gnL : Int32) (gbL : Nat → Int32) (gnF : Int32) (gbF : Nat → Int32) (gnQ : Int32) (gbQ : Nat → Int32) (gE : Nat → Nat → Int32) (gtp : Int32) (glf : Int32) (gtr : Int32) (glh : Int32) (gov : Int32) (mW : Nat → Int32) (mC : Nat → Int32) (mL : Nat → Int32) (mR : Nat → Int32) (mQ : Nat → Int32) (mE : Nat → Int32) (mtb : Int32) (mnC : Int32) (mnL : Int32) (mnR : Int32) (mov : Int32) (mnQ : Int32) (mwr : Int32) (mwl : Int32) (mft : Int32) (mth : Int32) (mpl : Int32) (out : Nat → Int64) (hI : I j (gM, gnC, gbC, gnL, gbL, gnF, gbF, gnQ, gbQ, gE, gtp, glf, gtr, glh, gov) (mW, mC, mL, mR, mQ, mE, mtb, mnC, mnL, mnR, mov, mnQ, mwr, mwl, mft, mth, mpl))
    (ih : ∀ (j2 : Nat) (gM : Nat → Int32) (gnC : Int32) (gbC : Nat → Int32) (gnL : Int32) (gbL : Nat → Int32) (gnF : Int32) (gbF : Nat → Int32) (gnQ : Int32) (gbQ : Nat → Int32) (gE : Nat → Nat → Int32) (gtp : Int32) (glf : Int32) (gtr : Int32) (glh : Int32) (gov : Int32) (mW : Nat → Int32) (mC : Nat → Int32) (mL : Nat → Int32) (mR : Nat → Int32) (mQ : Nat → Int32) (mE : Nat → Int32) (mtb : Int32) (mnC : Int32) (mnL : Int32) (mnR : Int32) (mov : Int32) (mnQ : Int32) (mwr : Int32) (mwl : Int32) (mft : Int32) (mth : Int32) (mpl : Int32) (out : Nat → Int64) (v4 : Int32), j2 = j + 1 → v4 = nI (6 * j2) → I j2 (gM, gnC, gbC, gnL, gbL, gnF, gbF, gnQ, gbQ, gE, gtp, glf, gtr, glh, gov) (mW, mC, mL, mR, mQ, mE, mtb, mnC, mnL, mnR, mov, mnQ, mwr, mwl, mft, mth, mpl) → jw p l e room_1 s m #[Value.ref b] below meth c 7 D (fun q : Nat => s.heap.size ≤ q) (30 + j2) (33300 + 6 * j2) (lw_Z below #[Value.ref b] s) (lww a k am km qo ko gM gnC gbC gnL gbL gnF gbF gnQ gbQ gE gtp glf gtr glh gov mW mC mL mR mQ mE mtb mnC mnL mnR mov mnQ mwr mwl mft mth mpl out) [(0, .ref b), (1, .ref (a 0)), (2, .ref (am 0)), (3, .ref qo), (4, .int v4)] 23 []) :
    jw p l e room_1 s m #[Value.ref b] below meth c 7 D (fun q : Nat => s.heap.size ≤ q) (30 + j) (33300 + 6 * j) (lw_Z below #[Value.ref b] s) (lww a k am km qo ko gM gnC gbC gnL gbL gnF gbF gnQ gbQ gE gtp glf gtr glh gov mW mC mL mR mQ mE mtb mnC mnL mnR mov mnQ mwr mwl mft mth mpl out) [(0, .ref b), (1, .ref (a 0)), (2, .ref (am 0)), (3, .ref qo), (4, .int v4)] 980 [] := by
  have hbA : ¬ (fun q : Nat => s.heap.size ≤ q) b := Nat.not_le.mpr hbl
  have hv1 : vp_in (v4 + 1) L := by rw [hv]; exact lawin hj6 (by omega) (k := 1) rfl (by omega)
  have hv2 : vp_in (v4 + 2) L := by rw [hv]; exact lawin hj6 (by omega) (k := 2) rfl (by omega)
  have hv3 : vp_in (v4 + 3) L := by rw [hv]; exact lawin hj6 (by omega) (k := 3) rfl (by omega)
  have hv4 : vp_in (v4 + 4) L := by rw [hv]; exact lawin hj6 (by omega) (k := 4) rfl (by omega)
  have hv5 : vp_in (v4 + 5) L := by rw [hv]; exact lawin hj6 (by omega) (k := 5) rfl (by omega)
  have hv6 : v4 + 6 = nI (6 * (j + 1)) := by rw [hv]; exact lawsix j
  refine j_aload_n (pc := 980) C 1 dL_law_980 rfl rfl ?_
  obtain ⟨rw1, rmw1, w1gnF, w1gov, w1mnR, w1mov, w1mth, hw1, hmw1, hew1, hIw1⟩ := S_clear j _ _ _ _ _ _ _ _ _ _ _ _ _ _ _ _ _ _ _ _ _ _ _ _ _ _ _ _ _ _ _ _ hjL hI
  refine j_callVi (pc := 981) (As := []) (rest := []) (ws' := (lww a k am km qo ko gM gnC gbC gnL gbL w1gnF gbF gnQ gbQ gE gtp glf gtr glh w1gov mW mC mL mR mQ mE mtb mnC mnL mnR mov mnQ mwr mwl mft mth mpl out)) C K (ci := 2) (q0 := 0) rfl rfl rfl (ctX2_clear l D a k _ _ _ _ _ _ _ _ _ _ _ _ _ _ _ _ _ _ hw1) gL_law_X2_clear rfl rfl rfl hdyX2_clear ⟨Nat.le_of_ble_eq_true rfl, Nat.le_of_ble_eq_true rfl⟩ (List.range 19) rfl (by decide) (jspA rfl rfl) [0, 1, 2, 3, 4, 5] rfl rfl (Nat.le_of_ble_eq_true rfl) dL_law_981 ⟨by show 30 + j ≤ 600002; omega, by show 33300 + 6 * j ≤ 7302232; omega⟩ ?_
  refine j_aload_n (pc := 984) C 2 dL_law_984 rfl rfl ?_
  refine j_callVi (pc := 985) (As := []) (rest := [.int rw1]) (ws' := (lww a k am km qo ko gM gnC gbC gnL gbL w1gnF gbF gnQ gbQ gE gtp glf gtr glh w1gov mW mC mL mR mQ mE mtb mnC mnL w1mnR w1mov mnQ mwr mwl mft w1mth mpl out)) C K (ci := 3) (q0 := 0) rfl rfl rfl (ctX3_clear l D am km _ _ _ _ _ _ _ _ _ _ _ _ _ _ _ _ _ _ _ _ _ hmw1) gL_law_X3_clear rfl rfl rfl hdyX3_clear ⟨Nat.le_of_ble_eq_true rfl, Nat.le_of_ble_eq_true rfl⟩ ((List.range 7).map (fun i => 19 + i)) rfl (by decide) (jspB rfl rfl rfl) [6, 7, 8, 9, 10, 11] rfl rfl (Nat.le_of_ble_eq_true rfl) dL_law_985 ⟨by show 30 + j ≤ 600002; omega, by show 33300 + 6 * j ≤ 7302232; omega⟩ ?_
  refine j_icmp_eq (pc := 988) (tgt := 1030) C dL_law_988 (by decide) (fun _ => ?_) (fun h => absurd hew1 h)
  refine j_iinc (pc := 1030) (v := (v4 + 6)) (lv' := [(4, .int (v4 + 6)), (0, .ref b), (1, .ref (a 0)), (2, .ref (am 0)), (3, .ref qo)]) C 4 dL_law_1030 rfl rfl (by decide) rfl ?_
  refine j_goto (pc := 1033) (tgt := 23) C dL_law_1033 (by decide) ?_
  refine j_widen (k := 30 + (j + 1)) (n := 33300 + 6 * (j + 1)) (by omega) (by omega) ?_
  exact j_lv [1, 2, 3, 4, 0] rfl (ih (j + 1) _ _ _ _ _ _ _ _ _ _ _ _ _ _ _ _ _ _ _ _ _ _ _ _ _ _ _ _ _ _ _ _ _ _ (by omega) hv6 hIw1)
set_option maxHeartbeats 4000000 in
set_option maxRecDepth 100000 in
theorem lawc_leaf {p : Program} {l : Launch} (hlt : l.stackTraces = false) {e : Env} {s : State} {m : MethodId} {below : List Frame} {meth : Method} {c : Code} {D : va_G} {b L : Nat} {xs : Nat → Int32} (hL : L ≤ 6) (C : jc p s m #[Value.ref b] c code 7 RL wsL_law (fun q : Nat => s.heap.size ≤ q)) (hr : meth.sig.returnType = ret) (hlk : meth.locks = false) (hX : va_X b L xs s s.heap) (hbl : b < s.heap.size) (hxw : xw s) (hxz : xz (fun q : Nat => s.heap.size ≤ q) s s.heap) {I : Nat → GS → MS → Prop} (S_leaf : sm_leaf I 1) (a : Nat → Nat) (k : Nat → ClassId) (am : Nat → Nat) (km : Nat → ClassId) (qo : Nat) (ko : ClassId) (K : jk D (ltt k km ko) s) (j : Nat) (hjL : j < 1) (hj6 : 6 * j + 6 ≤ L) (v4 : Int32) (hv : v4 = nI (6 * j)) (gM : Nat → Int32) (gnC : Int32) (gbC : Nat → Int32) (gnL : Int32) (gbL : Nat → Int32) (gnF : Int32) (gbF : Nat → Int32) (gnQ : Int32) (gbQ : Nat → Int32) (gE : Nat → Nat → Int32) (gtp : Int32) (glf : Int32) (gtr : Int32) (glh : Int32) (gov : Int32) (mW : Nat → Int32) (mC : Nat → Int32) (mL : Nat → Int32) (mR : Nat → Int32) (mQ : Nat → Int32) (mE : Nat → Int32) (mtb : Int32) (mnC : Int32) (mnL : Int32) (mnR : Int32) (mov : Int32) (mnQ : Int32) (mwr : Int32) (mwl : Int32) (mft : Int32) (mth : Int32) (mpl : Int32) (out : Nat → Int64) (hI : I j (gM, gnC, gbC, gnL, gbL, gnF, gbF, gnQ, gbQ, gE, gtp, glf, gtr, glh, gov) (mW, mC, mL, mR, mQ, mE, mtb, mnC, mnL, mnR, mov, mnQ, mwr, mwl, mft, mth, mpl))
    (ih : ∀ (j2 : Nat) (gM : Nat → Int32) (gnC : Int32) (gbC : Nat → Int32) (gnL : Int32) (gbL : Nat → Int32) (gnF : Int32) (gbF : Nat → Int32) (gnQ : Int32) (gbQ : Nat → Int32) (gE : Nat → Nat → Int32) (gtp : Int32) (glf : Int32) (gtr : Int32) (glh : Int32) (gov : Int32) (mW : Nat → Int32) (mC : Nat → Int32) (mL : Nat → Int32) (mR : Nat → Int32) (mQ : Nat → Int32) (mE : Nat → Int32) (mtb : Int32) (mnC : Int32) (mnL : Int32) (mnR : Int32) (mov : Int32) (mnQ : Int32) (mwr : Int32) (mwl : Int32) (mft : Int32) (mth : Int32) (mpl : Int32) (out : Nat → Int64) (v4 : Int32), j2 = j + 1 → v4 = nI (6 * j2) → I j2 (gM, gnC, gbC, gnL, gbL, gnF, gbF, gnQ, gbQ, gE, gtp, glf, gtr, glh, gov) (mW, mC, mL, mR, mQ, mE, mtb, mnC, mnL, mnR, mov, mnQ, mwr, mwl, mft, mth, mpl) → jw p l e room_1 s m #[Value.ref b] below meth c 7 D (fun q : Nat => s.heap.size ≤ q) (30 + j2) (33300 + 6 * j2) (lw_Z below #[Value.ref b] s) (lww a k am km qo ko gM gnC gbC gnL gbL gnF gbF gnQ gbQ gE gtp glf gtr glh gov mW mC mL mR mQ mE mtb mnC mnL mnR mov mnQ mwr mwl mft mth mpl out) [(0, .ref b), (1, .ref (a 0)), (2, .ref (am 0)), (3, .ref qo), (4, .int v4)] 23 []) :
    jw p l e room_1 s m #[Value.ref b] below meth c 7 D (fun q : Nat => s.heap.size ≤ q) (30 + j) (33300 + 6 * j) (lw_Z below #[Value.ref b] s) (lww a k am km qo ko gM gnC gbC gnL gbL gnF gbF gnQ gbQ gE gtp glf gtr glh gov mW mC mL mR mQ mE mtb mnC mnL mnR mov mnQ mwr mwl mft mth mpl out) [(0, .ref b), (1, .ref (a 0)), (2, .ref (am 0)), (3, .ref qo), (4, .int v4)] 993 [] := by
  have hbA : ¬ (fun q : Nat => s.heap.size ≤ q) b := Nat.not_le.mpr hbl
  have hv1 : vp_in (v4 + 1) L := by rw [hv]; exact lawin hj6 (by omega) (k := 1) rfl (by omega)
  have hv2 : vp_in (v4 + 2) L := by rw [hv]; exact lawin hj6 (by omega) (k := 2) rfl (by omega)
  have hv3 : vp_in (v4 + 3) L := by rw [hv]; exact lawin hj6 (by omega) (k := 3) rfl (by omega)
  have hv4 : vp_in (v4 + 4) L := by rw [hv]; exact lawin hj6 (by omega) (k := 4) rfl (by omega)
  have hv5 : vp_in (v4 + 5) L := by rw [hv]; exact lawin hj6 (by omega) (k := 5) rfl (by omega)
  have hv6 : v4 + 6 = nI (6 * (j + 1)) := by rw [hv]; exact lawsix j
  refine j_aload_n (pc := 993) C 1 dL_law_993 rfl rfl ?_
  refine j_aload_n (pc := 994) C 0 dL_law_994 rfl rfl ?_
  refine j_iload (pc := 995) C 4 dL_law_995 rfl ?_
  refine j_iconst (pc := 997) (v := 1) C dL_law_997 (by decide) ?_
  refine j_iadd (pc := 998) C dL_law_998 ?_
  refine j_sld (pc := 999) C hX hbl hbA hv1 dL_law_999 ?_
  refine j_aload_n (pc := 1000) C 0 dL_law_1000 rfl rfl ?_
  refine j_iload (pc := 1001) C 4 dL_law_1001 rfl ?_
  refine j_iconst (pc := 1003) (v := 2) C dL_law_1003 (by decide) ?_
  refine j_iadd (pc := 1004) C dL_law_1004 ?_
  refine j_sld (pc := 1005) C hX hbl hbA hv2 dL_law_1005 ?_
  obtain ⟨rw1, rmw1, w1mth, hw1, hmw1, hew1, hIw1⟩ := S_leaf j _ _ _ _ _ _ _ _ _ _ _ _ _ _ _ _ _ _ _ _ _ _ _ _ _ _ _ _ _ _ _ _ (xs (v4 + 1).toNatClampNeg) (xs (v4 + 2).toNatClampNeg) hjL hI
  refine j_callVi (pc := 1006) (As := [.int (xs (v4 + 1).toNatClampNeg), .int (xs (v4 + 2).toNatClampNeg)]) (rest := []) (ws' := (lww a k am km qo ko gM gnC gbC gnL gbL gnF gbF gnQ gbQ gE gtp glf gtr glh gov mW mC mL mR mQ mE mtb mnC mnL mnR mov mnQ mwr mwl mft mth mpl out)) C K (ci := 2) (q0 := 0) rfl rfl rfl (ctX2_leaf l D a k _ _ _ _ _ _ _ _ _ _ _ _ _ _ _ _ _ _ hw1) gL_law_X2_leaf rfl rfl rfl hdyX2_leaf ⟨Nat.le_of_ble_eq_true rfl, Nat.le_of_ble_eq_true rfl⟩ (List.range 19) rfl (by decide) (jspA rfl rfl) [0, 1, 2, 3, 4, 5] rfl rfl (Nat.le_of_ble_eq_true rfl) dL_law_1006 ⟨by show 30 + j ≤ 600002; omega, by show 33300 + 6 * j ≤ 7302232; omega⟩ ?_
  refine j_aload_n (pc := 1009) C 2 dL_law_1009 rfl rfl ?_
  refine j_aload_n (pc := 1010) C 0 dL_law_1010 rfl rfl ?_
  refine j_iload (pc := 1011) C 4 dL_law_1011 rfl ?_
  refine j_iconst (pc := 1013) (v := 1) C dL_law_1013 (by decide) ?_
  refine j_iadd (pc := 1014) C dL_law_1014 ?_
  refine j_sld (pc := 1015) C hX hbl hbA hv1 dL_law_1015 ?_
  refine j_aload_n (pc := 1016) C 0 dL_law_1016 rfl rfl ?_
  refine j_iload (pc := 1017) C 4 dL_law_1017 rfl ?_
  refine j_iconst (pc := 1019) (v := 2) C dL_law_1019 (by decide) ?_
  refine j_iadd (pc := 1020) C dL_law_1020 ?_
  refine j_sld (pc := 1021) C hX hbl hbA hv2 dL_law_1021 ?_
  refine j_callVi (pc := 1022) (As := [.int (xs (v4 + 1).toNatClampNeg), .int (xs (v4 + 2).toNatClampNeg)]) (rest := [.int rw1]) (ws' := (lww a k am km qo ko gM gnC gbC gnL gbL gnF gbF gnQ gbQ gE gtp glf gtr glh gov mW mC mL mR mQ mE mtb mnC mnL mnR mov mnQ mwr mwl mft w1mth mpl out)) C K (ci := 3) (q0 := 0) rfl rfl rfl (ctX3_leaf l D am km _ _ _ _ _ _ _ _ _ _ _ _ _ _ _ _ _ _ _ _ _ hmw1) gL_law_X3_leaf rfl rfl rfl hdyX3_leaf ⟨Nat.le_of_ble_eq_true rfl, Nat.le_of_ble_eq_true rfl⟩ ((List.range 7).map (fun i => 19 + i)) rfl (by decide) (jspB rfl rfl rfl) [6, 7, 8, 9, 10, 11] rfl rfl (Nat.le_of_ble_eq_true rfl) dL_law_1022 ⟨by show 30 + j ≤ 600002; omega, by show 33300 + 6 * j ≤ 7302232; omega⟩ ?_
  refine j_icmp_eq (pc := 1025) (tgt := 1030) C dL_law_1025 (by decide) (fun _ => ?_) (fun h => absurd hew1 h)
  refine j_iinc (pc := 1030) (v := (v4 + 6)) (lv' := [(4, .int (v4 + 6)), (0, .ref b), (1, .ref (a 0)), (2, .ref (am 0)), (3, .ref qo)]) C 4 dL_law_1030 rfl rfl (by decide) rfl ?_
  refine j_goto (pc := 1033) (tgt := 23) C dL_law_1033 (by decide) ?_
  refine j_widen (k := 30 + (j + 1)) (n := 33300 + 6 * (j + 1)) (by omega) (by omega) ?_
  exact j_lv [1, 2, 3, 4, 0] rfl (ih (j + 1) _ _ _ _ _ _ _ _ _ _ _ _ _ _ _ _ _ _ _ _ _ _ _ _ _ _ _ _ _ _ _ _ _ _ (by omega) hv6 hIw1)
set_option maxHeartbeats 4000000 in
set_option maxRecDepth 100000 in
theorem lawc_none {p : Program} {l : Launch} (hlt : l.stackTraces = false) {e : Env} {s : State} {m : MethodId} {below : List Frame} {meth : Method} {c : Code} {D : va_G} {b L : Nat} {xs : Nat → Int32} (hL : L ≤ 6) (C : jc p s m #[Value.ref b] c code 7 RL wsL_law (fun q : Nat => s.heap.size ≤ q)) (hr : meth.sig.returnType = ret) (hlk : meth.locks = false) (hX : va_X b L xs s s.heap) (hbl : b < s.heap.size) (hxw : xw s) (hxz : xz (fun q : Nat => s.heap.size ≤ q) s s.heap) {I : Nat → GS → MS → Prop} (S_idle : sm_idle I 1) (a : Nat → Nat) (k : Nat → ClassId) (am : Nat → Nat) (km : Nat → ClassId) (qo : Nat) (ko : ClassId) (K : jk D (ltt k km ko) s) (j : Nat) (hjL : j < 1) (hj6 : 6 * j + 6 ≤ L) (v4 : Int32) (hv : v4 = nI (6 * j)) (gM : Nat → Int32) (gnC : Int32) (gbC : Nat → Int32) (gnL : Int32) (gbL : Nat → Int32) (gnF : Int32) (gbF : Nat → Int32) (gnQ : Int32) (gbQ : Nat → Int32) (gE : Nat → Nat → Int32) (gtp : Int32) (glf : Int32) (gtr : Int32) (glh : Int32) (gov : Int32) (mW : Nat → Int32) (mC : Nat → Int32) (mL : Nat → Int32) (mR : Nat → Int32) (mQ : Nat → Int32) (mE : Nat → Int32) (mtb : Int32) (mnC : Int32) (mnL : Int32) (mnR : Int32) (mov : Int32) (mnQ : Int32) (mwr : Int32) (mwl : Int32) (mft : Int32) (mth : Int32) (mpl : Int32) (out : Nat → Int64) (hI : I j (gM, gnC, gbC, gnL, gbL, gnF, gbF, gnQ, gbQ, gE, gtp, glf, gtr, glh, gov) (mW, mC, mL, mR, mQ, mE, mtb, mnC, mnL, mnR, mov, mnQ, mwr, mwl, mft, mth, mpl))
    (ih : ∀ (j2 : Nat) (gM : Nat → Int32) (gnC : Int32) (gbC : Nat → Int32) (gnL : Int32) (gbL : Nat → Int32) (gnF : Int32) (gbF : Nat → Int32) (gnQ : Int32) (gbQ : Nat → Int32) (gE : Nat → Nat → Int32) (gtp : Int32) (glf : Int32) (gtr : Int32) (glh : Int32) (gov : Int32) (mW : Nat → Int32) (mC : Nat → Int32) (mL : Nat → Int32) (mR : Nat → Int32) (mQ : Nat → Int32) (mE : Nat → Int32) (mtb : Int32) (mnC : Int32) (mnL : Int32) (mnR : Int32) (mov : Int32) (mnQ : Int32) (mwr : Int32) (mwl : Int32) (mft : Int32) (mth : Int32) (mpl : Int32) (out : Nat → Int64) (v4 : Int32), j2 = j + 1 → v4 = nI (6 * j2) → I j2 (gM, gnC, gbC, gnL, gbL, gnF, gbF, gnQ, gbQ, gE, gtp, glf, gtr, glh, gov) (mW, mC, mL, mR, mQ, mE, mtb, mnC, mnL, mnR, mov, mnQ, mwr, mwl, mft, mth, mpl) → jw p l e room_1 s m #[Value.ref b] below meth c 7 D (fun q : Nat => s.heap.size ≤ q) (30 + j2) (33300 + 6 * j2) (lw_Z below #[Value.ref b] s) (lww a k am km qo ko gM gnC gbC gnL gbL gnF gbF gnQ gbQ gE gtp glf gtr glh gov mW mC mL mR mQ mE mtb mnC mnL mnR mov mnQ mwr mwl mft mth mpl out) [(0, .ref b), (1, .ref (a 0)), (2, .ref (am 0)), (3, .ref qo), (4, .int v4)] 23 []) :
    jw p l e room_1 s m #[Value.ref b] below meth c 7 D (fun q : Nat => s.heap.size ≤ q) (30 + j) (33300 + 6 * j) (lw_Z below #[Value.ref b] s) (lww a k am km qo ko gM gnC gbC gnL gbL gnF gbF gnQ gbQ gE gtp glf gtr glh gov mW mC mL mR mQ mE mtb mnC mnL mnR mov mnQ mwr mwl mft mth mpl out) [(0, .ref b), (1, .ref (a 0)), (2, .ref (am 0)), (3, .ref qo), (4, .int v4)] 1030 [] := by
  have hbA : ¬ (fun q : Nat => s.heap.size ≤ q) b := Nat.not_le.mpr hbl
  have hv1 : vp_in (v4 + 1) L := by rw [hv]; exact lawin hj6 (by omega) (k := 1) rfl (by omega)
  have hv2 : vp_in (v4 + 2) L := by rw [hv]; exact lawin hj6 (by omega) (k := 2) rfl (by omega)
  have hv3 : vp_in (v4 + 3) L := by rw [hv]; exact lawin hj6 (by omega) (k := 3) rfl (by omega)
  have hv4 : vp_in (v4 + 4) L := by rw [hv]; exact lawin hj6 (by omega) (k := 4) rfl (by omega)
  have hv5 : vp_in (v4 + 5) L := by rw [hv]; exact lawin hj6 (by omega) (k := 5) rfl (by omega)
  have hv6 : v4 + 6 = nI (6 * (j + 1)) := by rw [hv]; exact lawsix j
  have hIi := S_idle j (gM, gnC, gbC, gnL, gbL, gnF, gbF, gnQ, gbQ, gE, gtp, glf, gtr, glh, gov) (mW, mC, mL, mR, mQ, mE, mtb, mnC, mnL, mnR, mov, mnQ, mwr, mwl, mft, mth, mpl) hjL hI
  refine j_iinc (pc := 1030) (v := (v4 + 6)) (lv' := [(4, .int (v4 + 6)), (0, .ref b), (1, .ref (a 0)), (2, .ref (am 0)), (3, .ref qo)]) C 4 dL_law_1030 rfl rfl (by decide) rfl ?_
  refine j_goto (pc := 1033) (tgt := 23) C dL_law_1033 (by decide) ?_
  refine j_widen (k := 30 + (j + 1)) (n := 33300 + 6 * (j + 1)) (by omega) (by omega) ?_
  exact j_lv [1, 2, 3, 4, 0] rfl (ih (j + 1) _ _ _ _ _ _ _ _ _ _ _ _ _ _ _ _ _ _ _ _ _ _ _ _ _ _ _ _ _ _ _ _ _ _ (by omega) hv6 hIi)
