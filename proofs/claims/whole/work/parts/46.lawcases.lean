theorem y_lcmp (x : Int64) : lg_cmp x x = 0 := by unfold lg_cmp; simp
theorem mw_L_law_constantDoubleCleanRunsLaw184593671619917905920 : Cond.constantDouble RL 18 (4593671619917905920) ∈ wsL_law := List.mem_append_left _ (List.mem_append_left _ (List.mem_append_left _ (List.mem_append_left _ (List.mem_append_left _ (List.mem_append_left _ (List.mem_append_left _ (List.mem_append_left _ (List.mem_of_getElem? (i := 6) rfl))))))))
set_option maxHeartbeats 4000000 in
set_option maxRecDepth 100000 in
theorem law_recipe {p : Program} {e : Env} {s : State} {m : MethodId} {below : List Frame} {meth : Method} {c : Code} {l : Launch} {D : va_G} {t : Nat → ClassId} {b L : Nat} {xs : Nat → Int32} {x0 m0 : Nat} (hL : L ≤ 3072) (C0 : lw_At p s m meth c b L xs) (hKK : yK D t s) {i : Nat} (hi : i + 6 ≤ L) {Z : St} (hv : Inv Z) {d0 : Drawn} (hd0 : s.drawn.sameBut d0 lw_cs) {H : Heap} {locs : List Loc} {cells slots : Nat} (hG : gH D t s.heap.size x0 m0 Z Z H) (hS : va_S (fun q => s.heap.size ≤ q) s.heap H locs) (hc : cells + 3 ≤ 600000) (hs : slots + 33 ≤ 7302250) {ls : Array Slot} (hl : lv_has ls 8 [(0, .ref b), (1, .ref x0), (2, .ref m0), (3, .int (nI i))])
    (kk : ∀ (Z2 : St) (d1 : Drawn) (H1 : Heap) (locs1 : List Loc) (ls1 : Array Slot), Inv Z2 → s.drawn.sameBut d1 lw_cs → gH D t s.heap.size x0 m0 Z2 Z2 H1 → va_S (fun q => s.heap.size ≤ q) s.heap H1 locs1 → lv_has ls1 8 [(0, .ref b), (1, .ref x0), (2, .ref m0), (3, .int (nI i))] → W p l e room_1 (s.setDrawn d1) m #[Value.ref b] below meth c H1 locs1 (cells + 3) (slots + 33) (lw_Z below #[Value.ref b] s) (F0 m 625 ls1 [])) : W p l e room_1 (s.setDrawn d0) m #[Value.ref b] below meth c H locs cells slots (lw_Z below #[Value.ref b] s) (F0 m 104 ls []) := by
  obtain ⟨hx, hb, hr, hml, hown, hts1, hX, hbl, hlocks, hgv⟩ := C0
  have hts0 : ∀ w ∈ wsL_law, w.before #[Value.ref b] s = true := fun w h => hts1 w (wsL_law_in w h)
  have hbA : ¬ (fun q : Nat => s.heap.size ≤ q) b := Nat.not_le.mpr hbl
  have hKd : ∀ d, yK D t (s.setDrawn d) := fun d => hKK
  have hXd : ∀ d, va_X b L xs (s.setDrawn d) s.heap := fun d => hX
  have hL9 : L < 2 ^ 31 := by omega
  obtain ⟨ans, Z2, hv2, hI, hM⟩ := b_recipe l D t s.heap.size x0 m0 Z hv 
  refine lv_aload_n hx hb dL_law_104 rfl (lv_at hl 1 rfl) ?_
  refine lw_i (As := []) (rest := []) (⟨hx, hb, hml, hown, dr_words hts0 d0⟩ : CallFix p m c cL_law 8 (s.setDrawn d0) _ wsL_law RL) hI (cwV 0 (dr_words hts0 d0) gL_law_X4_recipe rfl rfl rfl (by decide +kernel) ⟨Nat.le_of_ble_eq_true rfl, Nat.le_of_ble_eq_true rfl⟩) (hKd d0) hG (gH_x (hKd d0) hG) hS rfl hl.1 rfl (Nat.le_of_ble_eq_true rfl) dL_law_105 ⟨Nat.le_trans (show _ ≤ cells + 3 by omega) hc, Nat.le_trans (show _ ≤ slots + 33 by omega) hs⟩ (fun H locs hG hS => ?_)
  refine lv_aload_n hx hb dL_law_108 rfl (lv_at hl 2 rfl) ?_
  refine lw_i (As := []) (rest := [.int ans]) (⟨hx, hb, hml, hown, dr_words hts0 d0⟩ : CallFix p m c cL_law 8 (s.setDrawn d0) _ wsL_law RL) hM (cwV 0 (dr_words hts0 d0) gL_law_X5_recipe rfl rfl rfl (by decide +kernel) ⟨Nat.le_of_ble_eq_true rfl, Nat.le_of_ble_eq_true rfl⟩) (hKd d0) hG (gH_m (hKd d0) hG) hS rfl hl.1 rfl (Nat.le_of_ble_eq_true rfl) dL_law_109 ⟨Nat.le_trans (show _ ≤ cells + 3 by omega) hc, Nat.le_trans (show _ ≤ slots + 33 by omega) hs⟩ (fun H locs hG hS => ?_)
  refine lv_icmp_eq (tgt := 625) hx hb dL_law_112 (by decide) (fun _ => ?_) (fun hc9 => absurd rfl hc9)
  refine W.widen (k := cells + 3) (n := slots + 33) (by omega) (by omega) ?_
  exact kk Z2 d0 _ _ _ hv2 hd0 hG hS (lv_sub hl [0, 1, 2, 3] rfl)
set_option maxHeartbeats 4000000 in
set_option maxRecDepth 100000 in
theorem law_step {p : Program} {e : Env} {s : State} {m : MethodId} {below : List Frame} {meth : Method} {c : Code} {l : Launch} {D : va_G} {t : Nat → ClassId} {b L : Nat} {xs : Nat → Int32} {x0 m0 : Nat} (hL : L ≤ 3072) (C0 : lw_At p s m meth c b L xs) (hKK : yK D t s) {i : Nat} (hi : i + 6 ≤ L) {Z : St} (hv : Inv Z) {d0 : Drawn} (hd0 : s.drawn.sameBut d0 lw_cs) {H : Heap} {locs : List Loc} {cells slots : Nat} (hG : gH D t s.heap.size x0 m0 Z Z H) (hS : va_S (fun q => s.heap.size ≤ q) s.heap H locs) (hc : cells + 3 ≤ 600000) (hs : slots + 33 ≤ 7302250) {ls : Array Slot} (hl : lv_has ls 8 [(0, .ref b), (1, .ref x0), (2, .ref m0), (3, .int (nI i))])
    (kk : ∀ (Z2 : St) (d1 : Drawn) (H1 : Heap) (locs1 : List Loc) (ls1 : Array Slot), Inv Z2 → s.drawn.sameBut d1 lw_cs → gH D t s.heap.size x0 m0 Z2 Z2 H1 → va_S (fun q => s.heap.size ≤ q) s.heap H1 locs1 → lv_has ls1 8 [(0, .ref b), (1, .ref x0), (2, .ref m0), (3, .int (nI i))] → W p l e room_1 (s.setDrawn d1) m #[Value.ref b] below meth c H1 locs1 (cells + 3) (slots + 33) (lw_Z below #[Value.ref b] s) (F0 m 625 ls1 [])) : W p l e room_1 (s.setDrawn d0) m #[Value.ref b] below meth c H locs cells slots (lw_Z below #[Value.ref b] s) (F0 m 117 ls []) := by
  obtain ⟨hx, hb, hr, hml, hown, hts1, hX, hbl, hlocks, hgv⟩ := C0
  have hts0 : ∀ w ∈ wsL_law, w.before #[Value.ref b] s = true := fun w h => hts1 w (wsL_law_in w h)
  have hbA : ¬ (fun q : Nat => s.heap.size ≤ q) b := Nat.not_le.mpr hbl
  have hKd : ∀ d, yK D t (s.setDrawn d) := fun d => hKK
  have hXd : ∀ d, va_X b L xs (s.setDrawn d) s.heap := fun d => hX
  have hL9 : L < 2 ^ 31 := by omega
  obtain ⟨ans, Z2, hv2, hI, hM⟩ := b_step l D t s.heap.size x0 m0 Z hv (xs (i + 1)) (xs (i + 2)) (xs (i + 3)) (FP.dmul (FP.i2d (xs (i + 4))) 4593671619917905920) (FP.dmul (FP.i2d (xs (i + 5))) 4593671619917905920)
  refine lv_aload_n hx hb dL_law_117 rfl (lv_at hl 1 rfl) ?_
  refine lv_aload_n hx hb dL_law_118 rfl (lv_at hl 0 rfl) ?_
  refine lv_iload_n hx hb dL_law_119 rfl (lv_at hl 3 rfl) ?_
  refine lv_iconst (v := 1) hx hb dL_law_120 (by decide) ?_
  refine lv_iadd hx hb dL_law_121 ?_
  refine y_int (nI (i + 1)) (nI_add i 1) ?_
  refine y_sld (j := (i + 1)) hx hb (hXd d0) hbl hbA hS (by omega) hL9 dL_law_122 ?_
  refine lv_aload_n hx hb dL_law_123 rfl (lv_at hl 0 rfl) ?_
  refine lv_iload_n hx hb dL_law_124 rfl (lv_at hl 3 rfl) ?_
  refine lv_iconst (v := 2) hx hb dL_law_125 (by decide) ?_
  refine lv_iadd hx hb dL_law_126 ?_
  refine y_int (nI (i + 2)) (nI_add i 2) ?_
  refine y_sld (j := (i + 2)) hx hb (hXd d0) hbl hbA hS (by omega) hL9 dL_law_127 ?_
  refine lv_aload_n hx hb dL_law_128 rfl (lv_at hl 0 rfl) ?_
  refine lv_iload_n hx hb dL_law_129 rfl (lv_at hl 3 rfl) ?_
  refine lv_iconst (v := 3) hx hb dL_law_130 (by decide) ?_
  refine lv_iadd hx hb dL_law_131 ?_
  refine y_int (nI (i + 3)) (nI_add i 3) ?_
  refine y_sld (j := (i + 3)) hx hb (hXd d0) hbl hbA hS (by omega) hL9 dL_law_132 ?_
  refine lv_aload_n hx hb dL_law_133 rfl (lv_at hl 0 rfl) ?_
  refine lv_iload_n hx hb dL_law_134 rfl (lv_at hl 3 rfl) ?_
  refine lv_iconst (v := 4) hx hb dL_law_135 (by decide) ?_
  refine lv_iadd hx hb dL_law_136 ?_
  refine y_int (nI (i + 4)) (nI_add i 4) ?_
  refine y_sld (j := (i + 4)) hx hb (hXd d0) hbl hbA hS (by omega) hL9 dL_law_137 ?_
  refine lv_i2d hx hb dL_law_138 ?_
  refine lv_ldc2d (v := 4593671619917905920) hx hb hown (dr_words hts0 d0 _ mw_L_law_constantDoubleCleanRunsLaw184593671619917905920) dL_law_139 ?_
  refine lv_dmul hx hb dL_law_142 (yd_8 _) ?_
  refine lv_aload_n hx hb dL_law_143 rfl (lv_at hl 0 rfl) ?_
  refine lv_iload_n hx hb dL_law_144 rfl (lv_at hl 3 rfl) ?_
  refine lv_iconst (v := 5) hx hb dL_law_145 (by decide) ?_
  refine lv_iadd hx hb dL_law_146 ?_
  refine y_int (nI (i + 5)) (nI_add i 5) ?_
  refine y_sld (j := (i + 5)) hx hb (hXd d0) hbl hbA hS (by omega) hL9 dL_law_147 ?_
  refine lv_i2d hx hb dL_law_148 ?_
  refine lv_ldc2d (v := 4593671619917905920) hx hb hown (dr_words hts0 d0 _ mw_L_law_constantDoubleCleanRunsLaw184593671619917905920) dL_law_149 ?_
  refine lv_dmul hx hb dL_law_152 (yd_8 _) ?_
  refine lw_i (As := [.int (xs (i + 1)), .int (xs (i + 2)), .int (xs (i + 3)), .double (FP.dmul (FP.i2d (xs (i + 4))) 4593671619917905920), .double (FP.dmul (FP.i2d (xs (i + 5))) 4593671619917905920)]) (rest := []) (⟨hx, hb, hml, hown, dr_words hts0 d0⟩ : CallFix p m c cL_law 8 (s.setDrawn d0) _ wsL_law RL) hI (cwV 5 (dr_words hts0 d0) gL_law_X4_step rfl rfl rfl (by decide +kernel) ⟨Nat.le_of_ble_eq_true rfl, Nat.le_of_ble_eq_true rfl⟩) (hKd d0) hG (gH_x (hKd d0) hG) hS rfl hl.1 rfl (Nat.le_of_ble_eq_true rfl) dL_law_153 ⟨Nat.le_trans (show _ ≤ cells + 3 by omega) hc, Nat.le_trans (show _ ≤ slots + 33 by omega) hs⟩ (fun H locs hG hS => ?_)
  refine lv_aload_n hx hb dL_law_156 rfl (lv_at hl 2 rfl) ?_
  refine lv_aload_n hx hb dL_law_157 rfl (lv_at hl 0 rfl) ?_
  refine lv_iload_n hx hb dL_law_158 rfl (lv_at hl 3 rfl) ?_
  refine lv_iconst (v := 1) hx hb dL_law_159 (by decide) ?_
  refine lv_iadd hx hb dL_law_160 ?_
  refine y_int (nI (i + 1)) (nI_add i 1) ?_
  refine y_sld (j := (i + 1)) hx hb (hXd d0) hbl hbA hS (by omega) hL9 dL_law_161 ?_
  refine lv_aload_n hx hb dL_law_162 rfl (lv_at hl 0 rfl) ?_
  refine lv_iload_n hx hb dL_law_163 rfl (lv_at hl 3 rfl) ?_
  refine lv_iconst (v := 2) hx hb dL_law_164 (by decide) ?_
  refine lv_iadd hx hb dL_law_165 ?_
  refine y_int (nI (i + 2)) (nI_add i 2) ?_
  refine y_sld (j := (i + 2)) hx hb (hXd d0) hbl hbA hS (by omega) hL9 dL_law_166 ?_
  refine lv_aload_n hx hb dL_law_167 rfl (lv_at hl 0 rfl) ?_
  refine lv_iload_n hx hb dL_law_168 rfl (lv_at hl 3 rfl) ?_
  refine lv_iconst (v := 3) hx hb dL_law_169 (by decide) ?_
  refine lv_iadd hx hb dL_law_170 ?_
  refine y_int (nI (i + 3)) (nI_add i 3) ?_
  refine y_sld (j := (i + 3)) hx hb (hXd d0) hbl hbA hS (by omega) hL9 dL_law_171 ?_
  refine lv_aload_n hx hb dL_law_172 rfl (lv_at hl 0 rfl) ?_
  refine lv_iload_n hx hb dL_law_173 rfl (lv_at hl 3 rfl) ?_
  refine lv_iconst (v := 4) hx hb dL_law_174 (by decide) ?_
  refine lv_iadd hx hb dL_law_175 ?_
  refine y_int (nI (i + 4)) (nI_add i 4) ?_
  refine y_sld (j := (i + 4)) hx hb (hXd d0) hbl hbA hS (by omega) hL9 dL_law_176 ?_
  refine lv_i2d hx hb dL_law_177 ?_
  refine lv_ldc2d (v := 4593671619917905920) hx hb hown (dr_words hts0 d0 _ mw_L_law_constantDoubleCleanRunsLaw184593671619917905920) dL_law_178 ?_
  refine lv_dmul hx hb dL_law_181 (yd_8 _) ?_
  refine lv_aload_n hx hb dL_law_182 rfl (lv_at hl 0 rfl) ?_
  refine lv_iload_n hx hb dL_law_183 rfl (lv_at hl 3 rfl) ?_
  refine lv_iconst (v := 5) hx hb dL_law_184 (by decide) ?_
  refine lv_iadd hx hb dL_law_185 ?_
  refine y_int (nI (i + 5)) (nI_add i 5) ?_
  refine y_sld (j := (i + 5)) hx hb (hXd d0) hbl hbA hS (by omega) hL9 dL_law_186 ?_
  refine lv_i2d hx hb dL_law_187 ?_
  refine lv_ldc2d (v := 4593671619917905920) hx hb hown (dr_words hts0 d0 _ mw_L_law_constantDoubleCleanRunsLaw184593671619917905920) dL_law_188 ?_
  refine lv_dmul hx hb dL_law_191 (yd_8 _) ?_
  refine lw_i (As := [.int (xs (i + 1)), .int (xs (i + 2)), .int (xs (i + 3)), .double (FP.dmul (FP.i2d (xs (i + 4))) 4593671619917905920), .double (FP.dmul (FP.i2d (xs (i + 5))) 4593671619917905920)]) (rest := [.int ans]) (⟨hx, hb, hml, hown, dr_words hts0 d0⟩ : CallFix p m c cL_law 8 (s.setDrawn d0) _ wsL_law RL) hM (cwV 5 (dr_words hts0 d0) gL_law_X5_step rfl rfl rfl (by decide +kernel) ⟨Nat.le_of_ble_eq_true rfl, Nat.le_of_ble_eq_true rfl⟩) (hKd d0) hG (gH_m (hKd d0) hG) hS rfl hl.1 rfl (Nat.le_of_ble_eq_true rfl) dL_law_192 ⟨Nat.le_trans (show _ ≤ cells + 3 by omega) hc, Nat.le_trans (show _ ≤ slots + 33 by omega) hs⟩ (fun H locs hG hS => ?_)
  refine lv_icmp_eq (tgt := 625) hx hb dL_law_195 (by decide) (fun _ => ?_) (fun hc9 => absurd rfl hc9)
  refine W.widen (k := cells + 3) (n := slots + 33) (by omega) (by omega) ?_
  exact kk Z2 d0 _ _ _ hv2 hd0 hG hS (lv_sub hl [0, 1, 2, 3] rfl)
set_option maxHeartbeats 4000000 in
set_option maxRecDepth 100000 in
theorem law_start {p : Program} {e : Env} {s : State} {m : MethodId} {below : List Frame} {meth : Method} {c : Code} {l : Launch} {D : va_G} {t : Nat → ClassId} {b L : Nat} {xs : Nat → Int32} {x0 m0 : Nat} (hL : L ≤ 3072) (C0 : lw_At p s m meth c b L xs) (hKK : yK D t s) {i : Nat} (hi : i + 6 ≤ L) {Z : St} (hv : Inv Z) {d0 : Drawn} (hd0 : s.drawn.sameBut d0 lw_cs) {H : Heap} {locs : List Loc} {cells slots : Nat} (hG : gH D t s.heap.size x0 m0 Z Z H) (hS : va_S (fun q => s.heap.size ≤ q) s.heap H locs) (hc : cells + 3 ≤ 600000) (hs : slots + 33 ≤ 7302250) {ls : Array Slot} (hl : lv_has ls 8 [(0, .ref b), (1, .ref x0), (2, .ref m0), (3, .int (nI i))])
    (kk : ∀ (Z2 : St) (d1 : Drawn) (H1 : Heap) (locs1 : List Loc) (ls1 : Array Slot), Inv Z2 → s.drawn.sameBut d1 lw_cs → gH D t s.heap.size x0 m0 Z2 Z2 H1 → va_S (fun q => s.heap.size ≤ q) s.heap H1 locs1 → lv_has ls1 8 [(0, .ref b), (1, .ref x0), (2, .ref m0), (3, .int (nI i))] → W p l e room_1 (s.setDrawn d1) m #[Value.ref b] below meth c H1 locs1 (cells + 3) (slots + 33) (lw_Z below #[Value.ref b] s) (F0 m 625 ls1 [])) : W p l e room_1 (s.setDrawn d0) m #[Value.ref b] below meth c H locs cells slots (lw_Z below #[Value.ref b] s) (F0 m 200 ls []) := by
  obtain ⟨hx, hb, hr, hml, hown, hts1, hX, hbl, hlocks, hgv⟩ := C0
  have hts0 : ∀ w ∈ wsL_law, w.before #[Value.ref b] s = true := fun w h => hts1 w (wsL_law_in w h)
  have hbA : ¬ (fun q : Nat => s.heap.size ≤ q) b := Nat.not_le.mpr hbl
  have hKd : ∀ d, yK D t (s.setDrawn d) := fun d => hKK
  have hXd : ∀ d, va_X b L xs (s.setDrawn d) s.heap := fun d => hX
  have hL9 : L < 2 ^ 31 := by omega
  obtain ⟨ans, Z2, hv2, hI, hM⟩ := b_start l D t s.heap.size x0 m0 Z hv (xs (i + 1)) (xs (i + 2))
  refine lv_aload_n hx hb dL_law_200 rfl (lv_at hl 1 rfl) ?_
  refine lv_aload_n hx hb dL_law_201 rfl (lv_at hl 0 rfl) ?_
  refine lv_iload_n hx hb dL_law_202 rfl (lv_at hl 3 rfl) ?_
  refine lv_iconst (v := 1) hx hb dL_law_203 (by decide) ?_
  refine lv_iadd hx hb dL_law_204 ?_
  refine y_int (nI (i + 1)) (nI_add i 1) ?_
  refine y_sld (j := (i + 1)) hx hb (hXd d0) hbl hbA hS (by omega) hL9 dL_law_205 ?_
  refine lv_aload_n hx hb dL_law_206 rfl (lv_at hl 0 rfl) ?_
  refine lv_iload_n hx hb dL_law_207 rfl (lv_at hl 3 rfl) ?_
  refine lv_iconst (v := 2) hx hb dL_law_208 (by decide) ?_
  refine lv_iadd hx hb dL_law_209 ?_
  refine y_int (nI (i + 2)) (nI_add i 2) ?_
  refine y_sld (j := (i + 2)) hx hb (hXd d0) hbl hbA hS (by omega) hL9 dL_law_210 ?_
  refine lw_i (As := [.int (xs (i + 1)), .int (xs (i + 2))]) (rest := []) (⟨hx, hb, hml, hown, dr_words hts0 d0⟩ : CallFix p m c cL_law 8 (s.setDrawn d0) _ wsL_law RL) hI (cwV 2 (dr_words hts0 d0) gL_law_X4_start rfl rfl rfl (by decide +kernel) ⟨Nat.le_of_ble_eq_true rfl, Nat.le_of_ble_eq_true rfl⟩) (hKd d0) hG (gH_x (hKd d0) hG) hS rfl hl.1 rfl (Nat.le_of_ble_eq_true rfl) dL_law_211 ⟨Nat.le_trans (show _ ≤ cells + 3 by omega) hc, Nat.le_trans (show _ ≤ slots + 33 by omega) hs⟩ (fun H locs hG hS => ?_)
  refine lv_aload_n hx hb dL_law_214 rfl (lv_at hl 2 rfl) ?_
  refine lv_aload_n hx hb dL_law_215 rfl (lv_at hl 0 rfl) ?_
  refine lv_iload_n hx hb dL_law_216 rfl (lv_at hl 3 rfl) ?_
  refine lv_iconst (v := 1) hx hb dL_law_217 (by decide) ?_
  refine lv_iadd hx hb dL_law_218 ?_
  refine y_int (nI (i + 1)) (nI_add i 1) ?_
  refine y_sld (j := (i + 1)) hx hb (hXd d0) hbl hbA hS (by omega) hL9 dL_law_219 ?_
  refine lv_aload_n hx hb dL_law_220 rfl (lv_at hl 0 rfl) ?_
  refine lv_iload_n hx hb dL_law_221 rfl (lv_at hl 3 rfl) ?_
  refine lv_iconst (v := 2) hx hb dL_law_222 (by decide) ?_
  refine lv_iadd hx hb dL_law_223 ?_
  refine y_int (nI (i + 2)) (nI_add i 2) ?_
  refine y_sld (j := (i + 2)) hx hb (hXd d0) hbl hbA hS (by omega) hL9 dL_law_224 ?_
  refine lw_i (As := [.int (xs (i + 1)), .int (xs (i + 2))]) (rest := [.int ans]) (⟨hx, hb, hml, hown, dr_words hts0 d0⟩ : CallFix p m c cL_law 8 (s.setDrawn d0) _ wsL_law RL) hM (cwV 2 (dr_words hts0 d0) gL_law_X5_start rfl rfl rfl (by decide +kernel) ⟨Nat.le_of_ble_eq_true rfl, Nat.le_of_ble_eq_true rfl⟩) (hKd d0) hG (gH_m (hKd d0) hG) hS rfl hl.1 rfl (Nat.le_of_ble_eq_true rfl) dL_law_225 ⟨Nat.le_trans (show _ ≤ cells + 3 by omega) hc, Nat.le_trans (show _ ≤ slots + 33 by omega) hs⟩ (fun H locs hG hS => ?_)
  refine lv_icmp_eq (tgt := 625) hx hb dL_law_228 (by decide) (fun _ => ?_) (fun hc9 => absurd rfl hc9)
  refine W.widen (k := cells + 3) (n := slots + 33) (by omega) (by omega) ?_
  exact kk Z2 d0 _ _ _ hv2 hd0 hG hS (lv_sub hl [0, 1, 2, 3] rfl)
set_option maxHeartbeats 4000000 in
set_option maxRecDepth 100000 in
theorem law_tick {p : Program} {e : Env} {s : State} {m : MethodId} {below : List Frame} {meth : Method} {c : Code} {l : Launch} {D : va_G} {t : Nat → ClassId} {b L : Nat} {xs : Nat → Int32} {x0 m0 : Nat} (hL : L ≤ 3072) (C0 : lw_At p s m meth c b L xs) (hKK : yK D t s) {i : Nat} (hi : i + 6 ≤ L) {Z : St} (hv : Inv Z) {d0 : Drawn} (hd0 : s.drawn.sameBut d0 lw_cs) {H : Heap} {locs : List Loc} {cells slots : Nat} (hG : gH D t s.heap.size x0 m0 Z Z H) (hS : va_S (fun q => s.heap.size ≤ q) s.heap H locs) (hc : cells + 3 ≤ 600000) (hs : slots + 33 ≤ 7302250) {ls : Array Slot} (hl : lv_has ls 8 [(0, .ref b), (1, .ref x0), (2, .ref m0), (3, .int (nI i))])
    (kk : ∀ (Z2 : St) (d1 : Drawn) (H1 : Heap) (locs1 : List Loc) (ls1 : Array Slot), Inv Z2 → s.drawn.sameBut d1 lw_cs → gH D t s.heap.size x0 m0 Z2 Z2 H1 → va_S (fun q => s.heap.size ≤ q) s.heap H1 locs1 → lv_has ls1 8 [(0, .ref b), (1, .ref x0), (2, .ref m0), (3, .int (nI i))] → W p l e room_1 (s.setDrawn d1) m #[Value.ref b] below meth c H1 locs1 (cells + 3) (slots + 33) (lw_Z below #[Value.ref b] s) (F0 m 625 ls1 [])) : W p l e room_1 (s.setDrawn d0) m #[Value.ref b] below meth c H locs cells slots (lw_Z below #[Value.ref b] s) (F0 m 233 ls []) := by
  obtain ⟨hx, hb, hr, hml, hown, hts1, hX, hbl, hlocks, hgv⟩ := C0
  have hts0 : ∀ w ∈ wsL_law, w.before #[Value.ref b] s = true := fun w h => hts1 w (wsL_law_in w h)
  have hbA : ¬ (fun q : Nat => s.heap.size ≤ q) b := Nat.not_le.mpr hbl
  have hKd : ∀ d, yK D t (s.setDrawn d) := fun d => hKK
  have hXd : ∀ d, va_X b L xs (s.setDrawn d) s.heap := fun d => hX
  have hL9 : L < 2 ^ 31 := by omega
  obtain ⟨ans, Z2, hv2, hI, hM⟩ := b_tick l D t s.heap.size x0 m0 Z hv (xs (i + 1)) (FP.dmul (FP.i2d (xs (i + 2))) 4593671619917905920) (FP.dmul (FP.i2d (xs (i + 3))) 4593671619917905920) (FP.dmul (FP.i2d (xs (i + 4))) 4593671619917905920)
  refine lv_aload_n hx hb dL_law_233 rfl (lv_at hl 1 rfl) ?_
  refine lv_aload_n hx hb dL_law_234 rfl (lv_at hl 0 rfl) ?_
  refine lv_iload_n hx hb dL_law_235 rfl (lv_at hl 3 rfl) ?_
  refine lv_iconst (v := 1) hx hb dL_law_236 (by decide) ?_
  refine lv_iadd hx hb dL_law_237 ?_
  refine y_int (nI (i + 1)) (nI_add i 1) ?_
  refine y_sld (j := (i + 1)) hx hb (hXd d0) hbl hbA hS (by omega) hL9 dL_law_238 ?_
  refine lv_aload_n hx hb dL_law_239 rfl (lv_at hl 0 rfl) ?_
  refine lv_iload_n hx hb dL_law_240 rfl (lv_at hl 3 rfl) ?_
  refine lv_iconst (v := 2) hx hb dL_law_241 (by decide) ?_
  refine lv_iadd hx hb dL_law_242 ?_
  refine y_int (nI (i + 2)) (nI_add i 2) ?_
  refine y_sld (j := (i + 2)) hx hb (hXd d0) hbl hbA hS (by omega) hL9 dL_law_243 ?_
  refine lv_i2d hx hb dL_law_244 ?_
  refine lv_ldc2d (v := 4593671619917905920) hx hb hown (dr_words hts0 d0 _ mw_L_law_constantDoubleCleanRunsLaw184593671619917905920) dL_law_245 ?_
  refine lv_dmul hx hb dL_law_248 (yd_8 _) ?_
  refine lv_aload_n hx hb dL_law_249 rfl (lv_at hl 0 rfl) ?_
  refine lv_iload_n hx hb dL_law_250 rfl (lv_at hl 3 rfl) ?_
  refine lv_iconst (v := 3) hx hb dL_law_251 (by decide) ?_
  refine lv_iadd hx hb dL_law_252 ?_
  refine y_int (nI (i + 3)) (nI_add i 3) ?_
  refine y_sld (j := (i + 3)) hx hb (hXd d0) hbl hbA hS (by omega) hL9 dL_law_253 ?_
  refine lv_i2d hx hb dL_law_254 ?_
  refine lv_ldc2d (v := 4593671619917905920) hx hb hown (dr_words hts0 d0 _ mw_L_law_constantDoubleCleanRunsLaw184593671619917905920) dL_law_255 ?_
  refine lv_dmul hx hb dL_law_258 (yd_8 _) ?_
  refine lv_aload_n hx hb dL_law_259 rfl (lv_at hl 0 rfl) ?_
  refine lv_iload_n hx hb dL_law_260 rfl (lv_at hl 3 rfl) ?_
  refine lv_iconst (v := 4) hx hb dL_law_261 (by decide) ?_
  refine lv_iadd hx hb dL_law_262 ?_
  refine y_int (nI (i + 4)) (nI_add i 4) ?_
  refine y_sld (j := (i + 4)) hx hb (hXd d0) hbl hbA hS (by omega) hL9 dL_law_263 ?_
  refine lv_i2d hx hb dL_law_264 ?_
  refine lv_ldc2d (v := 4593671619917905920) hx hb hown (dr_words hts0 d0 _ mw_L_law_constantDoubleCleanRunsLaw184593671619917905920) dL_law_265 ?_
  refine lv_dmul hx hb dL_law_268 (yd_8 _) ?_
  refine lw_i (As := [.int (xs (i + 1)), .double (FP.dmul (FP.i2d (xs (i + 2))) 4593671619917905920), .double (FP.dmul (FP.i2d (xs (i + 3))) 4593671619917905920), .double (FP.dmul (FP.i2d (xs (i + 4))) 4593671619917905920)]) (rest := []) (⟨hx, hb, hml, hown, dr_words hts0 d0⟩ : CallFix p m c cL_law 8 (s.setDrawn d0) _ wsL_law RL) hI (cwV 4 (dr_words hts0 d0) gL_law_X4_tick rfl rfl rfl (by decide +kernel) ⟨Nat.le_of_ble_eq_true rfl, Nat.le_of_ble_eq_true rfl⟩) (hKd d0) hG (gH_x (hKd d0) hG) hS rfl hl.1 rfl (Nat.le_of_ble_eq_true rfl) dL_law_269 ⟨Nat.le_trans (show _ ≤ cells + 3 by omega) hc, Nat.le_trans (show _ ≤ slots + 33 by omega) hs⟩ (fun H locs hG hS => ?_)
  refine lv_aload_n hx hb dL_law_272 rfl (lv_at hl 2 rfl) ?_
  refine lv_aload_n hx hb dL_law_273 rfl (lv_at hl 0 rfl) ?_
  refine lv_iload_n hx hb dL_law_274 rfl (lv_at hl 3 rfl) ?_
  refine lv_iconst (v := 1) hx hb dL_law_275 (by decide) ?_
  refine lv_iadd hx hb dL_law_276 ?_
  refine y_int (nI (i + 1)) (nI_add i 1) ?_
  refine y_sld (j := (i + 1)) hx hb (hXd d0) hbl hbA hS (by omega) hL9 dL_law_277 ?_
  refine lv_aload_n hx hb dL_law_278 rfl (lv_at hl 0 rfl) ?_
  refine lv_iload_n hx hb dL_law_279 rfl (lv_at hl 3 rfl) ?_
  refine lv_iconst (v := 2) hx hb dL_law_280 (by decide) ?_
  refine lv_iadd hx hb dL_law_281 ?_
  refine y_int (nI (i + 2)) (nI_add i 2) ?_
  refine y_sld (j := (i + 2)) hx hb (hXd d0) hbl hbA hS (by omega) hL9 dL_law_282 ?_
  refine lv_i2d hx hb dL_law_283 ?_
  refine lv_ldc2d (v := 4593671619917905920) hx hb hown (dr_words hts0 d0 _ mw_L_law_constantDoubleCleanRunsLaw184593671619917905920) dL_law_284 ?_
  refine lv_dmul hx hb dL_law_287 (yd_8 _) ?_
  refine lv_aload_n hx hb dL_law_288 rfl (lv_at hl 0 rfl) ?_
  refine lv_iload_n hx hb dL_law_289 rfl (lv_at hl 3 rfl) ?_
  refine lv_iconst (v := 3) hx hb dL_law_290 (by decide) ?_
  refine lv_iadd hx hb dL_law_291 ?_
  refine y_int (nI (i + 3)) (nI_add i 3) ?_
  refine y_sld (j := (i + 3)) hx hb (hXd d0) hbl hbA hS (by omega) hL9 dL_law_292 ?_
  refine lv_i2d hx hb dL_law_293 ?_
  refine lv_ldc2d (v := 4593671619917905920) hx hb hown (dr_words hts0 d0 _ mw_L_law_constantDoubleCleanRunsLaw184593671619917905920) dL_law_294 ?_
  refine lv_dmul hx hb dL_law_297 (yd_8 _) ?_
  refine lv_aload_n hx hb dL_law_298 rfl (lv_at hl 0 rfl) ?_
  refine lv_iload_n hx hb dL_law_299 rfl (lv_at hl 3 rfl) ?_
  refine lv_iconst (v := 4) hx hb dL_law_300 (by decide) ?_
  refine lv_iadd hx hb dL_law_301 ?_
  refine y_int (nI (i + 4)) (nI_add i 4) ?_
  refine y_sld (j := (i + 4)) hx hb (hXd d0) hbl hbA hS (by omega) hL9 dL_law_302 ?_
  refine lv_i2d hx hb dL_law_303 ?_
  refine lv_ldc2d (v := 4593671619917905920) hx hb hown (dr_words hts0 d0 _ mw_L_law_constantDoubleCleanRunsLaw184593671619917905920) dL_law_304 ?_
  refine lv_dmul hx hb dL_law_307 (yd_8 _) ?_
  refine lw_i (As := [.int (xs (i + 1)), .double (FP.dmul (FP.i2d (xs (i + 2))) 4593671619917905920), .double (FP.dmul (FP.i2d (xs (i + 3))) 4593671619917905920), .double (FP.dmul (FP.i2d (xs (i + 4))) 4593671619917905920)]) (rest := [.int ans]) (⟨hx, hb, hml, hown, dr_words hts0 d0⟩ : CallFix p m c cL_law 8 (s.setDrawn d0) _ wsL_law RL) hM (cwV 4 (dr_words hts0 d0) gL_law_X5_tick rfl rfl rfl (by decide +kernel) ⟨Nat.le_of_ble_eq_true rfl, Nat.le_of_ble_eq_true rfl⟩) (hKd d0) hG (gH_m (hKd d0) hG) hS rfl hl.1 rfl (Nat.le_of_ble_eq_true rfl) dL_law_308 ⟨Nat.le_trans (show _ ≤ cells + 3 by omega) hc, Nat.le_trans (show _ ≤ slots + 33 by omega) hs⟩ (fun H locs hG hS => ?_)
  refine lv_icmp_eq (tgt := 625) hx hb dL_law_311 (by decide) (fun _ => ?_) (fun hc9 => absurd rfl hc9)
  refine W.widen (k := cells + 3) (n := slots + 33) (by omega) (by omega) ?_
  exact kk Z2 d0 _ _ _ hv2 hd0 hG hS (lv_sub hl [0, 1, 2, 3] rfl)
set_option maxHeartbeats 4000000 in
set_option maxRecDepth 100000 in
theorem law_state {p : Program} {e : Env} {s : State} {m : MethodId} {below : List Frame} {meth : Method} {c : Code} {l : Launch} {D : va_G} {t : Nat → ClassId} {b L : Nat} {xs : Nat → Int32} {x0 m0 : Nat} (hL : L ≤ 3072) (C0 : lw_At p s m meth c b L xs) (hKK : yK D t s) {i : Nat} (hi : i + 6 ≤ L) {Z : St} (hv : Inv Z) {d0 : Drawn} (hd0 : s.drawn.sameBut d0 lw_cs) {H : Heap} {locs : List Loc} {cells slots : Nat} (hG : gH D t s.heap.size x0 m0 Z Z H) (hS : va_S (fun q => s.heap.size ≤ q) s.heap H locs) (hc : cells + 3 ≤ 600000) (hs : slots + 33 ≤ 7302250) {ls : Array Slot} (hl : lv_has ls 8 [(0, .ref b), (1, .ref x0), (2, .ref m0), (3, .int (nI i))])
    (kk : ∀ (Z2 : St) (d1 : Drawn) (H1 : Heap) (locs1 : List Loc) (ls1 : Array Slot), Inv Z2 → s.drawn.sameBut d1 lw_cs → gH D t s.heap.size x0 m0 Z2 Z2 H1 → va_S (fun q => s.heap.size ≤ q) s.heap H1 locs1 → lv_has ls1 8 [(0, .ref b), (1, .ref x0), (2, .ref m0), (3, .int (nI i))] → W p l e room_1 (s.setDrawn d1) m #[Value.ref b] below meth c H1 locs1 (cells + 3) (slots + 33) (lw_Z below #[Value.ref b] s) (F0 m 625 ls1 [])) : W p l e room_1 (s.setDrawn d0) m #[Value.ref b] below meth c H locs cells slots (lw_Z below #[Value.ref b] s) (F0 m 316 ls []) := by
  obtain ⟨hx, hb, hr, hml, hown, hts1, hX, hbl, hlocks, hgv⟩ := C0
  have hts0 : ∀ w ∈ wsL_law, w.before #[Value.ref b] s = true := fun w h => hts1 w (wsL_law_in w h)
  have hbA : ¬ (fun q : Nat => s.heap.size ≤ q) b := Nat.not_le.mpr hbl
  have hKd : ∀ d, yK D t (s.setDrawn d) := fun d => hKK
  have hXd : ∀ d, va_X b L xs (s.setDrawn d) s.heap := fun d => hX
  have hL9 : L < 2 ^ 31 := by omega
  obtain ⟨ans, Z2, hv2, hI, hM⟩ := b_state l D t s.heap.size x0 m0 Z hv (xs (i + 1))
  refine lv_aload_n hx hb dL_law_316 rfl (lv_at hl 1 rfl) ?_
  refine lv_aload_n hx hb dL_law_317 rfl (lv_at hl 0 rfl) ?_
  refine lv_iload_n hx hb dL_law_318 rfl (lv_at hl 3 rfl) ?_
  refine lv_iconst (v := 1) hx hb dL_law_319 (by decide) ?_
  refine lv_iadd hx hb dL_law_320 ?_
  refine y_int (nI (i + 1)) (nI_add i 1) ?_
  refine y_sld (j := (i + 1)) hx hb (hXd d0) hbl hbA hS (by omega) hL9 dL_law_321 ?_
  refine lw_i (As := [.int (xs (i + 1))]) (rest := []) (⟨hx, hb, hml, hown, dr_words hts0 d0⟩ : CallFix p m c cL_law 8 (s.setDrawn d0) _ wsL_law RL) hI (cwV 1 (dr_words hts0 d0) gL_law_X4_state rfl rfl rfl (by decide +kernel) ⟨Nat.le_of_ble_eq_true rfl, Nat.le_of_ble_eq_true rfl⟩) (hKd d0) hG (gH_x (hKd d0) hG) hS rfl hl.1 rfl (Nat.le_of_ble_eq_true rfl) dL_law_322 ⟨Nat.le_trans (show _ ≤ cells + 3 by omega) hc, Nat.le_trans (show _ ≤ slots + 33 by omega) hs⟩ (fun H locs hG hS => ?_)
  refine lv_aload_n hx hb dL_law_325 rfl (lv_at hl 2 rfl) ?_
  refine lv_aload_n hx hb dL_law_326 rfl (lv_at hl 0 rfl) ?_
  refine lv_iload_n hx hb dL_law_327 rfl (lv_at hl 3 rfl) ?_
  refine lv_iconst (v := 1) hx hb dL_law_328 (by decide) ?_
  refine lv_iadd hx hb dL_law_329 ?_
  refine y_int (nI (i + 1)) (nI_add i 1) ?_
  refine y_sld (j := (i + 1)) hx hb (hXd d0) hbl hbA hS (by omega) hL9 dL_law_330 ?_
  refine lw_i (As := [.int (xs (i + 1))]) (rest := [.int ans]) (⟨hx, hb, hml, hown, dr_words hts0 d0⟩ : CallFix p m c cL_law 8 (s.setDrawn d0) _ wsL_law RL) hM (cwV 1 (dr_words hts0 d0) gL_law_X5_state rfl rfl rfl (by decide +kernel) ⟨Nat.le_of_ble_eq_true rfl, Nat.le_of_ble_eq_true rfl⟩) (hKd d0) hG (gH_m (hKd d0) hG) hS rfl hl.1 rfl (Nat.le_of_ble_eq_true rfl) dL_law_331 ⟨Nat.le_trans (show _ ≤ cells + 3 by omega) hc, Nat.le_trans (show _ ≤ slots + 33 by omega) hs⟩ (fun H locs hG hS => ?_)
  refine lv_icmp_eq (tgt := 625) hx hb dL_law_334 (by decide) (fun _ => ?_) (fun hc9 => absurd rfl hc9)
  refine W.widen (k := cells + 3) (n := slots + 33) (by omega) (by omega) ?_
  exact kk Z2 d0 _ _ _ hv2 hd0 hG hS (lv_sub hl [0, 1, 2, 3] rfl)
set_option maxHeartbeats 4000000 in
set_option maxRecDepth 100000 in
theorem law_stepOf {p : Program} {e : Env} {s : State} {m : MethodId} {below : List Frame} {meth : Method} {c : Code} {l : Launch} {D : va_G} {t : Nat → ClassId} {b L : Nat} {xs : Nat → Int32} {x0 m0 : Nat} (hL : L ≤ 3072) (C0 : lw_At p s m meth c b L xs) (hKK : yK D t s) {i : Nat} (hi : i + 6 ≤ L) {Z : St} (hv : Inv Z) {d0 : Drawn} (hd0 : s.drawn.sameBut d0 lw_cs) {H : Heap} {locs : List Loc} {cells slots : Nat} (hG : gH D t s.heap.size x0 m0 Z Z H) (hS : va_S (fun q => s.heap.size ≤ q) s.heap H locs) (hc : cells + 3 ≤ 600000) (hs : slots + 33 ≤ 7302250) {ls : Array Slot} (hl : lv_has ls 8 [(0, .ref b), (1, .ref x0), (2, .ref m0), (3, .int (nI i))])
    (kk : ∀ (Z2 : St) (d1 : Drawn) (H1 : Heap) (locs1 : List Loc) (ls1 : Array Slot), Inv Z2 → s.drawn.sameBut d1 lw_cs → gH D t s.heap.size x0 m0 Z2 Z2 H1 → va_S (fun q => s.heap.size ≤ q) s.heap H1 locs1 → lv_has ls1 8 [(0, .ref b), (1, .ref x0), (2, .ref m0), (3, .int (nI i))] → W p l e room_1 (s.setDrawn d1) m #[Value.ref b] below meth c H1 locs1 (cells + 3) (slots + 33) (lw_Z below #[Value.ref b] s) (F0 m 625 ls1 [])) : W p l e room_1 (s.setDrawn d0) m #[Value.ref b] below meth c H locs cells slots (lw_Z below #[Value.ref b] s) (F0 m 339 ls []) := by
  obtain ⟨hx, hb, hr, hml, hown, hts1, hX, hbl, hlocks, hgv⟩ := C0
  have hts0 : ∀ w ∈ wsL_law, w.before #[Value.ref b] s = true := fun w h => hts1 w (wsL_law_in w h)
  have hbA : ¬ (fun q : Nat => s.heap.size ≤ q) b := Nat.not_le.mpr hbl
  have hKd : ∀ d, yK D t (s.setDrawn d) := fun d => hKK
  have hXd : ∀ d, va_X b L xs (s.setDrawn d) s.heap := fun d => hX
  have hL9 : L < 2 ^ 31 := by omega
  obtain ⟨ans, Z2, hv2, hI, hM⟩ := b_stepOf l D t s.heap.size x0 m0 Z hv (xs (i + 1))
  refine lv_aload_n hx hb dL_law_339 rfl (lv_at hl 1 rfl) ?_
  refine lv_aload_n hx hb dL_law_340 rfl (lv_at hl 0 rfl) ?_
  refine lv_iload_n hx hb dL_law_341 rfl (lv_at hl 3 rfl) ?_
  refine lv_iconst (v := 1) hx hb dL_law_342 (by decide) ?_
  refine lv_iadd hx hb dL_law_343 ?_
  refine y_int (nI (i + 1)) (nI_add i 1) ?_
  refine y_sld (j := (i + 1)) hx hb (hXd d0) hbl hbA hS (by omega) hL9 dL_law_344 ?_
  refine lw_i (As := [.int (xs (i + 1))]) (rest := []) (⟨hx, hb, hml, hown, dr_words hts0 d0⟩ : CallFix p m c cL_law 8 (s.setDrawn d0) _ wsL_law RL) hI (cwV 1 (dr_words hts0 d0) gL_law_X4_stepOf rfl rfl rfl (by decide +kernel) ⟨Nat.le_of_ble_eq_true rfl, Nat.le_of_ble_eq_true rfl⟩) (hKd d0) hG (gH_x (hKd d0) hG) hS rfl hl.1 rfl (Nat.le_of_ble_eq_true rfl) dL_law_345 ⟨Nat.le_trans (show _ ≤ cells + 3 by omega) hc, Nat.le_trans (show _ ≤ slots + 33 by omega) hs⟩ (fun H locs hG hS => ?_)
  refine lv_aload_n hx hb dL_law_348 rfl (lv_at hl 2 rfl) ?_
  refine lv_aload_n hx hb dL_law_349 rfl (lv_at hl 0 rfl) ?_
  refine lv_iload_n hx hb dL_law_350 rfl (lv_at hl 3 rfl) ?_
  refine lv_iconst (v := 1) hx hb dL_law_351 (by decide) ?_
  refine lv_iadd hx hb dL_law_352 ?_
  refine y_int (nI (i + 1)) (nI_add i 1) ?_
  refine y_sld (j := (i + 1)) hx hb (hXd d0) hbl hbA hS (by omega) hL9 dL_law_353 ?_
  refine lw_i (As := [.int (xs (i + 1))]) (rest := [.int ans]) (⟨hx, hb, hml, hown, dr_words hts0 d0⟩ : CallFix p m c cL_law 8 (s.setDrawn d0) _ wsL_law RL) hM (cwV 1 (dr_words hts0 d0) gL_law_X5_stepOf rfl rfl rfl (by decide +kernel) ⟨Nat.le_of_ble_eq_true rfl, Nat.le_of_ble_eq_true rfl⟩) (hKd d0) hG (gH_m (hKd d0) hG) hS rfl hl.1 rfl (Nat.le_of_ble_eq_true rfl) dL_law_354 ⟨Nat.le_trans (show _ ≤ cells + 3 by omega) hc, Nat.le_trans (show _ ≤ slots + 33 by omega) hs⟩ (fun H locs hG hS => ?_)
  refine lv_icmp_eq (tgt := 625) hx hb dL_law_357 (by decide) (fun _ => ?_) (fun hc9 => absurd rfl hc9)
  refine W.widen (k := cells + 3) (n := slots + 33) (by omega) (by omega) ?_
  exact kk Z2 d0 _ _ _ hv2 hd0 hG hS (lv_sub hl [0, 1, 2, 3] rfl)
set_option maxHeartbeats 4000000 in
set_option maxRecDepth 100000 in
theorem law_counted {p : Program} {e : Env} {s : State} {m : MethodId} {below : List Frame} {meth : Method} {c : Code} {l : Launch} {D : va_G} {t : Nat → ClassId} {b L : Nat} {xs : Nat → Int32} {x0 m0 : Nat} (hL : L ≤ 3072) (C0 : lw_At p s m meth c b L xs) (hKK : yK D t s) {i : Nat} (hi : i + 6 ≤ L) {Z : St} (hv : Inv Z) {d0 : Drawn} (hd0 : s.drawn.sameBut d0 lw_cs) {H : Heap} {locs : List Loc} {cells slots : Nat} (hG : gH D t s.heap.size x0 m0 Z Z H) (hS : va_S (fun q => s.heap.size ≤ q) s.heap H locs) (hc : cells + 3 ≤ 600000) (hs : slots + 33 ≤ 7302250) {ls : Array Slot} (hl : lv_has ls 8 [(0, .ref b), (1, .ref x0), (2, .ref m0), (3, .int (nI i))])
    (kk : ∀ (Z2 : St) (d1 : Drawn) (H1 : Heap) (locs1 : List Loc) (ls1 : Array Slot), Inv Z2 → s.drawn.sameBut d1 lw_cs → gH D t s.heap.size x0 m0 Z2 Z2 H1 → va_S (fun q => s.heap.size ≤ q) s.heap H1 locs1 → lv_has ls1 8 [(0, .ref b), (1, .ref x0), (2, .ref m0), (3, .int (nI i))] → W p l e room_1 (s.setDrawn d1) m #[Value.ref b] below meth c H1 locs1 (cells + 3) (slots + 33) (lw_Z below #[Value.ref b] s) (F0 m 625 ls1 [])) : W p l e room_1 (s.setDrawn d0) m #[Value.ref b] below meth c H locs cells slots (lw_Z below #[Value.ref b] s) (F0 m 362 ls []) := by
  obtain ⟨hx, hb, hr, hml, hown, hts1, hX, hbl, hlocks, hgv⟩ := C0
  have hts0 : ∀ w ∈ wsL_law, w.before #[Value.ref b] s = true := fun w h => hts1 w (wsL_law_in w h)
  have hbA : ¬ (fun q : Nat => s.heap.size ≤ q) b := Nat.not_le.mpr hbl
  have hKd : ∀ d, yK D t (s.setDrawn d) := fun d => hKK
  have hXd : ∀ d, va_X b L xs (s.setDrawn d) s.heap := fun d => hX
  have hL9 : L < 2 ^ 31 := by omega
  obtain ⟨ans, hI, hM⟩ := b_counted l D t s.heap.size x0 m0 Z hv (xs (i + 1))
  refine lv_aload_n hx hb dL_law_362 rfl (lv_at hl 1 rfl) ?_
  refine lv_aload_n hx hb dL_law_363 rfl (lv_at hl 0 rfl) ?_
  refine lv_iload_n hx hb dL_law_364 rfl (lv_at hl 3 rfl) ?_
  refine lv_iconst (v := 1) hx hb dL_law_365 (by decide) ?_
  refine lv_iadd hx hb dL_law_366 ?_
  refine y_int (nI (i + 1)) (nI_add i 1) ?_
  refine y_sld (j := (i + 1)) hx hb (hXd d0) hbl hbA hS (by omega) hL9 dL_law_367 ?_
  refine lw_l (As := [.int (xs (i + 1))]) (rest := []) (⟨hx, hb, hml, hown, dr_words hts0 d0⟩ : CallFix p m c cL_law 8 (s.setDrawn d0) _ wsL_law RL) hI (cwV 1 (dr_words hts0 d0) gL_law_X4_counted rfl rfl rfl (by decide +kernel) ⟨Nat.le_of_ble_eq_true rfl, Nat.le_of_ble_eq_true rfl⟩) (hKd d0) hG (gH_x (hKd d0) hG) hS rfl hl.1 rfl (Nat.le_of_ble_eq_true rfl) dL_law_368 ⟨Nat.le_trans (show _ ≤ cells + 3 by omega) hc, Nat.le_trans (show _ ≤ slots + 33 by omega) hs⟩ (fun H locs hG hS => ?_)
  refine lv_aload_n hx hb dL_law_371 rfl (lv_at hl 2 rfl) ?_
  refine lv_aload_n hx hb dL_law_372 rfl (lv_at hl 0 rfl) ?_
  refine lv_iload_n hx hb dL_law_373 rfl (lv_at hl 3 rfl) ?_
  refine lv_iconst (v := 1) hx hb dL_law_374 (by decide) ?_
  refine lv_iadd hx hb dL_law_375 ?_
  refine y_int (nI (i + 1)) (nI_add i 1) ?_
  refine y_sld (j := (i + 1)) hx hb (hXd d0) hbl hbA hS (by omega) hL9 dL_law_376 ?_
  refine lw_l (As := [.int (xs (i + 1))]) (rest := [.long ans]) (⟨hx, hb, hml, hown, dr_words hts0 d0⟩ : CallFix p m c cL_law 8 (s.setDrawn d0) _ wsL_law RL) hM (cwV 1 (dr_words hts0 d0) gL_law_X5_counted rfl rfl rfl (by decide +kernel) ⟨Nat.le_of_ble_eq_true rfl, Nat.le_of_ble_eq_true rfl⟩) (hKd d0) hG (gH_m (hKd d0) hG) hS rfl hl.1 rfl (Nat.le_of_ble_eq_true rfl) dL_law_377 ⟨Nat.le_trans (show _ ≤ cells + 3 by omega) hc, Nat.le_trans (show _ ≤ slots + 33 by omega) hs⟩ (fun H locs hG hS => ?_)
  refine W.lcmp hx hb dL_law_380 ?_
  refine lv_if_eq (tgt := 625) hx hb dL_law_381 (by decide) (fun _ => ?_) (fun hc9 => absurd (y_lcmp ans) hc9)
  refine W.widen (k := cells + 3) (n := slots + 33) (by omega) (by omega) ?_
  exact kk Z d0 _ _ _ hv hd0 hG hS (lv_sub hl [0, 1, 2, 3] rfl)
set_option maxHeartbeats 4000000 in
set_option maxRecDepth 100000 in
theorem law_failed {p : Program} {e : Env} {s : State} {m : MethodId} {below : List Frame} {meth : Method} {c : Code} {l : Launch} {D : va_G} {t : Nat → ClassId} {b L : Nat} {xs : Nat → Int32} {x0 m0 : Nat} (hL : L ≤ 3072) (C0 : lw_At p s m meth c b L xs) (hKK : yK D t s) {i : Nat} (hi : i + 6 ≤ L) {Z : St} (hv : Inv Z) {d0 : Drawn} (hd0 : s.drawn.sameBut d0 lw_cs) {H : Heap} {locs : List Loc} {cells slots : Nat} (hG : gH D t s.heap.size x0 m0 Z Z H) (hS : va_S (fun q => s.heap.size ≤ q) s.heap H locs) (hc : cells + 3 ≤ 600000) (hs : slots + 33 ≤ 7302250) {ls : Array Slot} (hl : lv_has ls 8 [(0, .ref b), (1, .ref x0), (2, .ref m0), (3, .int (nI i))])
    (kk : ∀ (Z2 : St) (d1 : Drawn) (H1 : Heap) (locs1 : List Loc) (ls1 : Array Slot), Inv Z2 → s.drawn.sameBut d1 lw_cs → gH D t s.heap.size x0 m0 Z2 Z2 H1 → va_S (fun q => s.heap.size ≤ q) s.heap H1 locs1 → lv_has ls1 8 [(0, .ref b), (1, .ref x0), (2, .ref m0), (3, .int (nI i))] → W p l e room_1 (s.setDrawn d1) m #[Value.ref b] below meth c H1 locs1 (cells + 3) (slots + 33) (lw_Z below #[Value.ref b] s) (F0 m 625 ls1 [])) : W p l e room_1 (s.setDrawn d0) m #[Value.ref b] below meth c H locs cells slots (lw_Z below #[Value.ref b] s) (F0 m 386 ls []) := by
  obtain ⟨hx, hb, hr, hml, hown, hts1, hX, hbl, hlocks, hgv⟩ := C0
  have hts0 : ∀ w ∈ wsL_law, w.before #[Value.ref b] s = true := fun w h => hts1 w (wsL_law_in w h)
  have hbA : ¬ (fun q : Nat => s.heap.size ≤ q) b := Nat.not_le.mpr hbl
  have hKd : ∀ d, yK D t (s.setDrawn d) := fun d => hKK
  have hXd : ∀ d, va_X b L xs (s.setDrawn d) s.heap := fun d => hX
  have hL9 : L < 2 ^ 31 := by omega
  obtain ⟨ans, Z2, hv2, hI, hM⟩ := b_failed l D t s.heap.size x0 m0 Z hv (xs (i + 1))
  refine lv_aload_n hx hb dL_law_386 rfl (lv_at hl 1 rfl) ?_
  refine lv_aload_n hx hb dL_law_387 rfl (lv_at hl 0 rfl) ?_
  refine lv_iload_n hx hb dL_law_388 rfl (lv_at hl 3 rfl) ?_
  refine lv_iconst (v := 1) hx hb dL_law_389 (by decide) ?_
  refine lv_iadd hx hb dL_law_390 ?_
  refine y_int (nI (i + 1)) (nI_add i 1) ?_
  refine y_sld (j := (i + 1)) hx hb (hXd d0) hbl hbA hS (by omega) hL9 dL_law_391 ?_
  refine lw_i (As := [.int (xs (i + 1))]) (rest := []) (⟨hx, hb, hml, hown, dr_words hts0 d0⟩ : CallFix p m c cL_law 8 (s.setDrawn d0) _ wsL_law RL) hI (cwV 1 (dr_words hts0 d0) gL_law_X4_failed rfl rfl rfl (by decide +kernel) ⟨Nat.le_of_ble_eq_true rfl, Nat.le_of_ble_eq_true rfl⟩) (hKd d0) hG (gH_x (hKd d0) hG) hS rfl hl.1 rfl (Nat.le_of_ble_eq_true rfl) dL_law_392 ⟨Nat.le_trans (show _ ≤ cells + 3 by omega) hc, Nat.le_trans (show _ ≤ slots + 33 by omega) hs⟩ (fun H locs hG hS => ?_)
  refine lv_aload_n hx hb dL_law_395 rfl (lv_at hl 2 rfl) ?_
  refine lv_aload_n hx hb dL_law_396 rfl (lv_at hl 0 rfl) ?_
  refine lv_iload_n hx hb dL_law_397 rfl (lv_at hl 3 rfl) ?_
  refine lv_iconst (v := 1) hx hb dL_law_398 (by decide) ?_
  refine lv_iadd hx hb dL_law_399 ?_
  refine y_int (nI (i + 1)) (nI_add i 1) ?_
  refine y_sld (j := (i + 1)) hx hb (hXd d0) hbl hbA hS (by omega) hL9 dL_law_400 ?_
  refine lw_i (As := [.int (xs (i + 1))]) (rest := [.int ans]) (⟨hx, hb, hml, hown, dr_words hts0 d0⟩ : CallFix p m c cL_law 8 (s.setDrawn d0) _ wsL_law RL) hM (cwV 1 (dr_words hts0 d0) gL_law_X5_failed rfl rfl rfl (by decide +kernel) ⟨Nat.le_of_ble_eq_true rfl, Nat.le_of_ble_eq_true rfl⟩) (hKd d0) hG (gH_m (hKd d0) hG) hS rfl hl.1 rfl (Nat.le_of_ble_eq_true rfl) dL_law_401 ⟨Nat.le_trans (show _ ≤ cells + 3 by omega) hc, Nat.le_trans (show _ ≤ slots + 33 by omega) hs⟩ (fun H locs hG hS => ?_)
  refine lv_icmp_eq (tgt := 625) hx hb dL_law_404 (by decide) (fun _ => ?_) (fun hc9 => absurd rfl hc9)
  refine W.widen (k := cells + 3) (n := slots + 33) (by omega) (by omega) ?_
  exact kk Z2 d0 _ _ _ hv2 hd0 hG hS (lv_sub hl [0, 1, 2, 3] rfl)
set_option maxHeartbeats 4000000 in
set_option maxRecDepth 100000 in
theorem law_cleaner {p : Program} {e : Env} {s : State} {m : MethodId} {below : List Frame} {meth : Method} {c : Code} {l : Launch} {D : va_G} {t : Nat → ClassId} {b L : Nat} {xs : Nat → Int32} {x0 m0 : Nat} (hL : L ≤ 3072) (C0 : lw_At p s m meth c b L xs) (hKK : yK D t s) {i : Nat} (hi : i + 6 ≤ L) {Z : St} (hv : Inv Z) {d0 : Drawn} (hd0 : s.drawn.sameBut d0 lw_cs) {H : Heap} {locs : List Loc} {cells slots : Nat} (hG : gH D t s.heap.size x0 m0 Z Z H) (hS : va_S (fun q => s.heap.size ≤ q) s.heap H locs) (hc : cells + 3 ≤ 600000) (hs : slots + 33 ≤ 7302250) {ls : Array Slot} (hl : lv_has ls 8 [(0, .ref b), (1, .ref x0), (2, .ref m0), (3, .int (nI i))])
    (kk : ∀ (Z2 : St) (d1 : Drawn) (H1 : Heap) (locs1 : List Loc) (ls1 : Array Slot), Inv Z2 → s.drawn.sameBut d1 lw_cs → gH D t s.heap.size x0 m0 Z2 Z2 H1 → va_S (fun q => s.heap.size ≤ q) s.heap H1 locs1 → lv_has ls1 8 [(0, .ref b), (1, .ref x0), (2, .ref m0), (3, .int (nI i))] → W p l e room_1 (s.setDrawn d1) m #[Value.ref b] below meth c H1 locs1 (cells + 3) (slots + 33) (lw_Z below #[Value.ref b] s) (F0 m 625 ls1 [])) : W p l e room_1 (s.setDrawn d0) m #[Value.ref b] below meth c H locs cells slots (lw_Z below #[Value.ref b] s) (F0 m 409 ls []) := by
  obtain ⟨hx, hb, hr, hml, hown, hts1, hX, hbl, hlocks, hgv⟩ := C0
  have hts0 : ∀ w ∈ wsL_law, w.before #[Value.ref b] s = true := fun w h => hts1 w (wsL_law_in w h)
  have hbA : ¬ (fun q : Nat => s.heap.size ≤ q) b := Nat.not_le.mpr hbl
  have hKd : ∀ d, yK D t (s.setDrawn d) := fun d => hKK
  have hXd : ∀ d, va_X b L xs (s.setDrawn d) s.heap := fun d => hX
  have hL9 : L < 2 ^ 31 := by omega
  obtain ⟨ans, hI, hM⟩ := b_cleaner l D t s.heap.size x0 m0 Z hv (xs (i + 1)) (xs (i + 2))
  refine lv_aload_n hx hb dL_law_409 rfl (lv_at hl 1 rfl) ?_
  refine lv_aload_n hx hb dL_law_410 rfl (lv_at hl 0 rfl) ?_
  refine lv_iload_n hx hb dL_law_411 rfl (lv_at hl 3 rfl) ?_
  refine lv_iconst (v := 1) hx hb dL_law_412 (by decide) ?_
  refine lv_iadd hx hb dL_law_413 ?_
  refine y_int (nI (i + 1)) (nI_add i 1) ?_
  refine y_sld (j := (i + 1)) hx hb (hXd d0) hbl hbA hS (by omega) hL9 dL_law_414 ?_
  refine lv_aload_n hx hb dL_law_415 rfl (lv_at hl 0 rfl) ?_
  refine lv_iload_n hx hb dL_law_416 rfl (lv_at hl 3 rfl) ?_
  refine lv_iconst (v := 2) hx hb dL_law_417 (by decide) ?_
  refine lv_iadd hx hb dL_law_418 ?_
  refine y_int (nI (i + 2)) (nI_add i 2) ?_
  refine y_sld (j := (i + 2)) hx hb (hXd d0) hbl hbA hS (by omega) hL9 dL_law_419 ?_
  refine lw_d hd0 (As := [.int (xs (i + 1)), .int (xs (i + 2))]) (rest := []) (⟨hx, hb, hml, hown, dr_words hts0 d0⟩ : CallFix p m c cL_law 8 (s.setDrawn d0) _ wsL_law RL) hI (cwV 2 (dr_words hts0 d0) gL_law_X4_cleaner rfl rfl rfl (by decide +kernel) ⟨Nat.le_of_ble_eq_true rfl, Nat.le_of_ble_eq_true rfl⟩) hKK hG (gH_x hKK hG) hS rfl hl.1 rfl (Nat.le_of_ble_eq_true rfl) dL_law_420 ⟨Nat.le_trans (show _ ≤ cells + 3 by omega) hc, Nat.le_trans (show _ ≤ slots + 33 by omega) hs⟩ (fun p1 H locs d1 hd1 hal1 hG hS => ?_)
  refine lv_dstore (lv' := [(4, .double p1), (0, .ref b), (1, .ref x0), (2, .ref m0), (3, .int (nI i))]) hx hb dL_law_423 hl (by decide) rfl (fun ls hl => ?_)
  refine lv_aload_n hx hb dL_law_425 rfl (lv_at hl 3 rfl) ?_
  refine lv_aload_n hx hb dL_law_426 rfl (lv_at hl 1 rfl) ?_
  refine lv_iload_n hx hb dL_law_427 rfl (lv_at hl 4 rfl) ?_
  refine lv_iconst (v := 1) hx hb dL_law_428 (by decide) ?_
  refine lv_iadd hx hb dL_law_429 ?_
  refine y_int (nI (i + 1)) (nI_add i 1) ?_
  refine y_sld (j := (i + 1)) hx hb (hXd d1) hbl hbA hS (by omega) hL9 dL_law_430 ?_
  refine lv_aload_n hx hb dL_law_431 rfl (lv_at hl 1 rfl) ?_
  refine lv_iload_n hx hb dL_law_432 rfl (lv_at hl 4 rfl) ?_
  refine lv_iconst (v := 2) hx hb dL_law_433 (by decide) ?_
  refine lv_iadd hx hb dL_law_434 ?_
  refine y_int (nI (i + 2)) (nI_add i 2) ?_
  refine y_sld (j := (i + 2)) hx hb (hXd d1) hbl hbA hS (by omega) hL9 dL_law_435 ?_
  refine lw_d hd1 (As := [.int (xs (i + 1)), .int (xs (i + 2))]) (rest := []) (⟨hx, hb, hml, hown, dr_words hts0 d1⟩ : CallFix p m c cL_law 8 (s.setDrawn d1) _ wsL_law RL) hM (cwV 2 (dr_words hts0 d1) gL_law_X5_cleaner rfl rfl rfl (by decide +kernel) ⟨Nat.le_of_ble_eq_true rfl, Nat.le_of_ble_eq_true rfl⟩) hKK hG (gH_m hKK hG) hS rfl hl.1 rfl (Nat.le_of_ble_eq_true rfl) dL_law_436 ⟨Nat.le_trans (show _ ≤ cells + 3 by omega) hc, Nat.le_trans (show _ ≤ slots + 33 by omega) hs⟩ (fun p2 H locs d2 hd2 hal2 hG hS => ?_)
  refine lv_dstore (lv' := [(6, .double p2), (4, .double p1), (0, .ref b), (1, .ref x0), (2, .ref m0), (3, .int (nI i))]) hx hb dL_law_439 hl (by decide) rfl (fun ls hl => ?_)
  refine lv_dload hx hb dL_law_441 (lv_at hl 1 rfl) ?_
  refine lv_dload hx hb dL_law_443 (lv_at hl 0 rfl) ?_
  refine lv_dcmp hx hb dL_law_445 ?_
  rcases y_al_cmp hal1 hal2 with h9 | ⟨h9, h8, h7⟩
  · refine lv_if_eq (tgt := 467) hx hb dL_law_446 (by decide) (fun _ => ?_) (fun hc9 => absurd h9 hc9)
    refine lv_goto (tgt := 625) hx hb dL_law_467 (by decide) ?_
    refine W.widen (k := cells + 3) (n := slots + 33) (by omega) (by omega) ?_
    exact kk Z d2 _ _ _ hv hd2 hG hS (lv_sub hl [2, 3, 4, 5] rfl)
  · refine lv_if_eq (tgt := 467) hx hb dL_law_446 (by decide) (fun hc9 => absurd hc9 h9) (fun _ => ?_)
    refine lv_dload hx hb dL_law_449 (lv_at hl 1 rfl) ?_
    refine lv_dload hx hb dL_law_451 (lv_at hl 1 rfl) ?_
    refine lv_dcmp hx hb dL_law_453 ?_
    refine lv_if_eq (tgt := 465) hx hb dL_law_454 (by decide) (fun hc9 => absurd hc9 h8) (fun _ => ?_)
    refine lv_dload hx hb dL_law_457 (lv_at hl 0 rfl) ?_
    refine lv_dload hx hb dL_law_459 (lv_at hl 0 rfl) ?_
    refine lv_dcmp hx hb dL_law_461 ?_
    refine lv_if_ne (tgt := 467) hx hb dL_law_462 (by decide) (fun _ => ?_) (fun hc9 => absurd hc9 h7)
    refine lv_goto (tgt := 625) hx hb dL_law_467 (by decide) ?_
    refine W.widen (k := cells + 3) (n := slots + 33) (by omega) (by omega) ?_
    exact kk Z d2 _ _ _ hv hd2 hG hS (lv_sub hl [2, 3, 4, 5] rfl)
set_option maxHeartbeats 4000000 in
set_option maxRecDepth 100000 in
theorem law_interface2 {p : Program} {e : Env} {s : State} {m : MethodId} {below : List Frame} {meth : Method} {c : Code} {l : Launch} {D : va_G} {t : Nat → ClassId} {b L : Nat} {xs : Nat → Int32} {x0 m0 : Nat} (hL : L ≤ 3072) (C0 : lw_At p s m meth c b L xs) (hKK : yK D t s) {i : Nat} (hi : i + 6 ≤ L) {Z : St} (hv : Inv Z) {d0 : Drawn} (hd0 : s.drawn.sameBut d0 lw_cs) {H : Heap} {locs : List Loc} {cells slots : Nat} (hG : gH D t s.heap.size x0 m0 Z Z H) (hS : va_S (fun q => s.heap.size ≤ q) s.heap H locs) (hc : cells + 3 ≤ 600000) (hs : slots + 33 ≤ 7302250) {ls : Array Slot} (hl : lv_has ls 8 [(0, .ref b), (1, .ref x0), (2, .ref m0), (3, .int (nI i))])
    (kk : ∀ (Z2 : St) (d1 : Drawn) (H1 : Heap) (locs1 : List Loc) (ls1 : Array Slot), Inv Z2 → s.drawn.sameBut d1 lw_cs → gH D t s.heap.size x0 m0 Z2 Z2 H1 → va_S (fun q => s.heap.size ≤ q) s.heap H1 locs1 → lv_has ls1 8 [(0, .ref b), (1, .ref x0), (2, .ref m0), (3, .int (nI i))] → W p l e room_1 (s.setDrawn d1) m #[Value.ref b] below meth c H1 locs1 (cells + 3) (slots + 33) (lw_Z below #[Value.ref b] s) (F0 m 625 ls1 [])) : W p l e room_1 (s.setDrawn d0) m #[Value.ref b] below meth c H locs cells slots (lw_Z below #[Value.ref b] s) (F0 m 470 ls []) := by
  obtain ⟨hx, hb, hr, hml, hown, hts1, hX, hbl, hlocks, hgv⟩ := C0
  have hts0 : ∀ w ∈ wsL_law, w.before #[Value.ref b] s = true := fun w h => hts1 w (wsL_law_in w h)
  have hbA : ¬ (fun q : Nat => s.heap.size ≤ q) b := Nat.not_le.mpr hbl
  have hKd : ∀ d, yK D t (s.setDrawn d) := fun d => hKK
  have hXd : ∀ d, va_X b L xs (s.setDrawn d) s.heap := fun d => hX
  have hL9 : L < 2 ^ 31 := by omega
  obtain ⟨ans, Z2, hv2, hI, hM⟩ := b_interface l D t s.heap.size x0 m0 Z hv (xs (i + 1)) (FP.dmul (FP.i2d (xs (i + 2))) 4593671619917905920) (xs (i + 3))
  refine lv_aload_n hx hb dL_law_470 rfl (lv_at hl 1 rfl) ?_
  refine lv_aload_n hx hb dL_law_471 rfl (lv_at hl 0 rfl) ?_
  refine lv_iload_n hx hb dL_law_472 rfl (lv_at hl 3 rfl) ?_
  refine lv_iconst (v := 1) hx hb dL_law_473 (by decide) ?_
  refine lv_iadd hx hb dL_law_474 ?_
  refine y_int (nI (i + 1)) (nI_add i 1) ?_
  refine y_sld (j := (i + 1)) hx hb (hXd d0) hbl hbA hS (by omega) hL9 dL_law_475 ?_
  refine lv_aload_n hx hb dL_law_476 rfl (lv_at hl 0 rfl) ?_
  refine lv_iload_n hx hb dL_law_477 rfl (lv_at hl 3 rfl) ?_
  refine lv_iconst (v := 2) hx hb dL_law_478 (by decide) ?_
  refine lv_iadd hx hb dL_law_479 ?_
  refine y_int (nI (i + 2)) (nI_add i 2) ?_
  refine y_sld (j := (i + 2)) hx hb (hXd d0) hbl hbA hS (by omega) hL9 dL_law_480 ?_
  refine lv_i2d hx hb dL_law_481 ?_
  refine lv_ldc2d (v := 4593671619917905920) hx hb hown (dr_words hts0 d0 _ mw_L_law_constantDoubleCleanRunsLaw184593671619917905920) dL_law_482 ?_
  refine lv_dmul hx hb dL_law_485 (yd_8 _) ?_
  refine lv_aload_n hx hb dL_law_486 rfl (lv_at hl 0 rfl) ?_
  refine lv_iload_n hx hb dL_law_487 rfl (lv_at hl 3 rfl) ?_
  refine lv_iconst (v := 3) hx hb dL_law_488 (by decide) ?_
  refine lv_iadd hx hb dL_law_489 ?_
  refine y_int (nI (i + 3)) (nI_add i 3) ?_
  refine y_sld (j := (i + 3)) hx hb (hXd d0) hbl hbA hS (by omega) hL9 dL_law_490 ?_
  refine lw_i (As := [.int (xs (i + 1)), .double (FP.dmul (FP.i2d (xs (i + 2))) 4593671619917905920), .int (xs (i + 3))]) (rest := []) (⟨hx, hb, hml, hown, dr_words hts0 d0⟩ : CallFix p m c cL_law 8 (s.setDrawn d0) _ wsL_law RL) hI (cwV 3 (dr_words hts0 d0) gL_law_X4_interface2 rfl rfl rfl (by decide +kernel) ⟨Nat.le_of_ble_eq_true rfl, Nat.le_of_ble_eq_true rfl⟩) (hKd d0) hG (gH_x (hKd d0) hG) hS rfl hl.1 rfl (Nat.le_of_ble_eq_true rfl) dL_law_491 ⟨Nat.le_trans (show _ ≤ cells + 3 by omega) hc, Nat.le_trans (show _ ≤ slots + 33 by omega) hs⟩ (fun H locs hG hS => ?_)
  refine lv_aload_n hx hb dL_law_494 rfl (lv_at hl 2 rfl) ?_
  refine lv_aload_n hx hb dL_law_495 rfl (lv_at hl 0 rfl) ?_
  refine lv_iload_n hx hb dL_law_496 rfl (lv_at hl 3 rfl) ?_
  refine lv_iconst (v := 1) hx hb dL_law_497 (by decide) ?_
  refine lv_iadd hx hb dL_law_498 ?_
  refine y_int (nI (i + 1)) (nI_add i 1) ?_
  refine y_sld (j := (i + 1)) hx hb (hXd d0) hbl hbA hS (by omega) hL9 dL_law_499 ?_
  refine lv_aload_n hx hb dL_law_500 rfl (lv_at hl 0 rfl) ?_
  refine lv_iload_n hx hb dL_law_501 rfl (lv_at hl 3 rfl) ?_
  refine lv_iconst (v := 2) hx hb dL_law_502 (by decide) ?_
  refine lv_iadd hx hb dL_law_503 ?_
  refine y_int (nI (i + 2)) (nI_add i 2) ?_
  refine y_sld (j := (i + 2)) hx hb (hXd d0) hbl hbA hS (by omega) hL9 dL_law_504 ?_
  refine lv_i2d hx hb dL_law_505 ?_
  refine lv_ldc2d (v := 4593671619917905920) hx hb hown (dr_words hts0 d0 _ mw_L_law_constantDoubleCleanRunsLaw184593671619917905920) dL_law_506 ?_
  refine lv_dmul hx hb dL_law_509 (yd_8 _) ?_
  refine lv_aload_n hx hb dL_law_510 rfl (lv_at hl 0 rfl) ?_
  refine lv_iload_n hx hb dL_law_511 rfl (lv_at hl 3 rfl) ?_
  refine lv_iconst (v := 3) hx hb dL_law_512 (by decide) ?_
  refine lv_iadd hx hb dL_law_513 ?_
  refine y_int (nI (i + 3)) (nI_add i 3) ?_
  refine y_sld (j := (i + 3)) hx hb (hXd d0) hbl hbA hS (by omega) hL9 dL_law_514 ?_
  refine lw_i (As := [.int (xs (i + 1)), .double (FP.dmul (FP.i2d (xs (i + 2))) 4593671619917905920), .int (xs (i + 3))]) (rest := [.int ans]) (⟨hx, hb, hml, hown, dr_words hts0 d0⟩ : CallFix p m c cL_law 8 (s.setDrawn d0) _ wsL_law RL) hM (cwV 3 (dr_words hts0 d0) gL_law_X5_interface2 rfl rfl rfl (by decide +kernel) ⟨Nat.le_of_ble_eq_true rfl, Nat.le_of_ble_eq_true rfl⟩) (hKd d0) hG (gH_m (hKd d0) hG) hS rfl hl.1 rfl (Nat.le_of_ble_eq_true rfl) dL_law_515 ⟨Nat.le_trans (show _ ≤ cells + 3 by omega) hc, Nat.le_trans (show _ ≤ slots + 33 by omega) hs⟩ (fun H locs hG hS => ?_)
  refine lv_icmp_eq (tgt := 625) hx hb dL_law_518 (by decide) (fun _ => ?_) (fun hc9 => absurd rfl hc9)
  refine W.widen (k := cells + 3) (n := slots + 33) (by omega) (by omega) ?_
  exact kk Z2 d0 _ _ _ hv2 hd0 hG hS (lv_sub hl [0, 1, 2, 3] rfl)
set_option maxHeartbeats 4000000 in
set_option maxRecDepth 100000 in
theorem law_level {p : Program} {e : Env} {s : State} {m : MethodId} {below : List Frame} {meth : Method} {c : Code} {l : Launch} {D : va_G} {t : Nat → ClassId} {b L : Nat} {xs : Nat → Int32} {x0 m0 : Nat} (hL : L ≤ 3072) (C0 : lw_At p s m meth c b L xs) (hKK : yK D t s) {i : Nat} (hi : i + 6 ≤ L) {Z : St} (hv : Inv Z) {d0 : Drawn} (hd0 : s.drawn.sameBut d0 lw_cs) {H : Heap} {locs : List Loc} {cells slots : Nat} (hG : gH D t s.heap.size x0 m0 Z Z H) (hS : va_S (fun q => s.heap.size ≤ q) s.heap H locs) (hc : cells + 3 ≤ 600000) (hs : slots + 33 ≤ 7302250) {ls : Array Slot} (hl : lv_has ls 8 [(0, .ref b), (1, .ref x0), (2, .ref m0), (3, .int (nI i))])
    (kk : ∀ (Z2 : St) (d1 : Drawn) (H1 : Heap) (locs1 : List Loc) (ls1 : Array Slot), Inv Z2 → s.drawn.sameBut d1 lw_cs → gH D t s.heap.size x0 m0 Z2 Z2 H1 → va_S (fun q => s.heap.size ≤ q) s.heap H1 locs1 → lv_has ls1 8 [(0, .ref b), (1, .ref x0), (2, .ref m0), (3, .int (nI i))] → W p l e room_1 (s.setDrawn d1) m #[Value.ref b] below meth c H1 locs1 (cells + 3) (slots + 33) (lw_Z below #[Value.ref b] s) (F0 m 625 ls1 [])) : W p l e room_1 (s.setDrawn d0) m #[Value.ref b] below meth c H locs cells slots (lw_Z below #[Value.ref b] s) (F0 m 523 ls []) := by
  obtain ⟨hx, hb, hr, hml, hown, hts1, hX, hbl, hlocks, hgv⟩ := C0
  have hts0 : ∀ w ∈ wsL_law, w.before #[Value.ref b] s = true := fun w h => hts1 w (wsL_law_in w h)
  have hbA : ¬ (fun q : Nat => s.heap.size ≤ q) b := Nat.not_le.mpr hbl
  have hKd : ∀ d, yK D t (s.setDrawn d) := fun d => hKK
  have hXd : ∀ d, va_X b L xs (s.setDrawn d) s.heap := fun d => hX
  have hL9 : L < 2 ^ 31 := by omega
  obtain ⟨ans, Z2, hv2, hI, hM⟩ := b_level l D t s.heap.size x0 m0 Z hv (xs (i + 1))
  refine lv_aload_n hx hb dL_law_523 rfl (lv_at hl 1 rfl) ?_
  refine lv_aload_n hx hb dL_law_524 rfl (lv_at hl 0 rfl) ?_
  refine lv_iload_n hx hb dL_law_525 rfl (lv_at hl 3 rfl) ?_
  refine lv_iconst (v := 1) hx hb dL_law_526 (by decide) ?_
  refine lv_iadd hx hb dL_law_527 ?_
  refine y_int (nI (i + 1)) (nI_add i 1) ?_
  refine y_sld (j := (i + 1)) hx hb (hXd d0) hbl hbA hS (by omega) hL9 dL_law_528 ?_
  refine lw_i (As := [.int (xs (i + 1))]) (rest := []) (⟨hx, hb, hml, hown, dr_words hts0 d0⟩ : CallFix p m c cL_law 8 (s.setDrawn d0) _ wsL_law RL) hI (cwV 1 (dr_words hts0 d0) gL_law_X4_level rfl rfl rfl (by decide +kernel) ⟨Nat.le_of_ble_eq_true rfl, Nat.le_of_ble_eq_true rfl⟩) (hKd d0) hG (gH_x (hKd d0) hG) hS rfl hl.1 rfl (Nat.le_of_ble_eq_true rfl) dL_law_529 ⟨Nat.le_trans (show _ ≤ cells + 3 by omega) hc, Nat.le_trans (show _ ≤ slots + 33 by omega) hs⟩ (fun H locs hG hS => ?_)
  refine lv_aload_n hx hb dL_law_532 rfl (lv_at hl 2 rfl) ?_
  refine lv_aload_n hx hb dL_law_533 rfl (lv_at hl 0 rfl) ?_
  refine lv_iload_n hx hb dL_law_534 rfl (lv_at hl 3 rfl) ?_
  refine lv_iconst (v := 1) hx hb dL_law_535 (by decide) ?_
  refine lv_iadd hx hb dL_law_536 ?_
  refine y_int (nI (i + 1)) (nI_add i 1) ?_
  refine y_sld (j := (i + 1)) hx hb (hXd d0) hbl hbA hS (by omega) hL9 dL_law_537 ?_
  refine lw_i (As := [.int (xs (i + 1))]) (rest := [.int ans]) (⟨hx, hb, hml, hown, dr_words hts0 d0⟩ : CallFix p m c cL_law 8 (s.setDrawn d0) _ wsL_law RL) hM (cwV 1 (dr_words hts0 d0) gL_law_X5_level rfl rfl rfl (by decide +kernel) ⟨Nat.le_of_ble_eq_true rfl, Nat.le_of_ble_eq_true rfl⟩) (hKd d0) hG (gH_m (hKd d0) hG) hS rfl hl.1 rfl (Nat.le_of_ble_eq_true rfl) dL_law_538 ⟨Nat.le_trans (show _ ≤ cells + 3 by omega) hc, Nat.le_trans (show _ ≤ slots + 33 by omega) hs⟩ (fun H locs hG hS => ?_)
  refine lv_icmp_eq (tgt := 625) hx hb dL_law_541 (by decide) (fun _ => ?_) (fun hc9 => absurd rfl hc9)
  refine W.widen (k := cells + 3) (n := slots + 33) (by omega) (by omega) ?_
  exact kk Z2 d0 _ _ _ hv2 hd0 hG hS (lv_sub hl [0, 1, 2, 3] rfl)
set_option maxHeartbeats 4000000 in
set_option maxRecDepth 100000 in
theorem law_breakOff {p : Program} {e : Env} {s : State} {m : MethodId} {below : List Frame} {meth : Method} {c : Code} {l : Launch} {D : va_G} {t : Nat → ClassId} {b L : Nat} {xs : Nat → Int32} {x0 m0 : Nat} (hL : L ≤ 3072) (C0 : lw_At p s m meth c b L xs) (hKK : yK D t s) {i : Nat} (hi : i + 6 ≤ L) {Z : St} (hv : Inv Z) {d0 : Drawn} (hd0 : s.drawn.sameBut d0 lw_cs) {H : Heap} {locs : List Loc} {cells slots : Nat} (hG : gH D t s.heap.size x0 m0 Z Z H) (hS : va_S (fun q => s.heap.size ≤ q) s.heap H locs) (hc : cells + 3 ≤ 600000) (hs : slots + 33 ≤ 7302250) {ls : Array Slot} (hl : lv_has ls 8 [(0, .ref b), (1, .ref x0), (2, .ref m0), (3, .int (nI i))])
    (kk : ∀ (Z2 : St) (d1 : Drawn) (H1 : Heap) (locs1 : List Loc) (ls1 : Array Slot), Inv Z2 → s.drawn.sameBut d1 lw_cs → gH D t s.heap.size x0 m0 Z2 Z2 H1 → va_S (fun q => s.heap.size ≤ q) s.heap H1 locs1 → lv_has ls1 8 [(0, .ref b), (1, .ref x0), (2, .ref m0), (3, .int (nI i))] → W p l e room_1 (s.setDrawn d1) m #[Value.ref b] below meth c H1 locs1 (cells + 3) (slots + 33) (lw_Z below #[Value.ref b] s) (F0 m 625 ls1 [])) : W p l e room_1 (s.setDrawn d0) m #[Value.ref b] below meth c H locs cells slots (lw_Z below #[Value.ref b] s) (F0 m 546 ls []) := by
  obtain ⟨hx, hb, hr, hml, hown, hts1, hX, hbl, hlocks, hgv⟩ := C0
  have hts0 : ∀ w ∈ wsL_law, w.before #[Value.ref b] s = true := fun w h => hts1 w (wsL_law_in w h)
  have hbA : ¬ (fun q : Nat => s.heap.size ≤ q) b := Nat.not_le.mpr hbl
  have hKd : ∀ d, yK D t (s.setDrawn d) := fun d => hKK
  have hXd : ∀ d, va_X b L xs (s.setDrawn d) s.heap := fun d => hX
  have hL9 : L < 2 ^ 31 := by omega
  obtain ⟨ans, Z2, hv2, hI, hM⟩ := b_breakOff l D t s.heap.size x0 m0 Z hv (xs (i + 1))
  refine lv_aload_n hx hb dL_law_546 rfl (lv_at hl 1 rfl) ?_
  refine lv_aload_n hx hb dL_law_547 rfl (lv_at hl 0 rfl) ?_
  refine lv_iload_n hx hb dL_law_548 rfl (lv_at hl 3 rfl) ?_
  refine lv_iconst (v := 1) hx hb dL_law_549 (by decide) ?_
  refine lv_iadd hx hb dL_law_550 ?_
  refine y_int (nI (i + 1)) (nI_add i 1) ?_
  refine y_sld (j := (i + 1)) hx hb (hXd d0) hbl hbA hS (by omega) hL9 dL_law_551 ?_
  refine lw_i (As := [.int (xs (i + 1))]) (rest := []) (⟨hx, hb, hml, hown, dr_words hts0 d0⟩ : CallFix p m c cL_law 8 (s.setDrawn d0) _ wsL_law RL) hI (cwV 1 (dr_words hts0 d0) gL_law_X4_breakOff rfl rfl rfl (by decide +kernel) ⟨Nat.le_of_ble_eq_true rfl, Nat.le_of_ble_eq_true rfl⟩) (hKd d0) hG (gH_x (hKd d0) hG) hS rfl hl.1 rfl (Nat.le_of_ble_eq_true rfl) dL_law_552 ⟨Nat.le_trans (show _ ≤ cells + 3 by omega) hc, Nat.le_trans (show _ ≤ slots + 33 by omega) hs⟩ (fun H locs hG hS => ?_)
  refine lv_aload_n hx hb dL_law_555 rfl (lv_at hl 2 rfl) ?_
  refine lv_aload_n hx hb dL_law_556 rfl (lv_at hl 0 rfl) ?_
  refine lv_iload_n hx hb dL_law_557 rfl (lv_at hl 3 rfl) ?_
  refine lv_iconst (v := 1) hx hb dL_law_558 (by decide) ?_
  refine lv_iadd hx hb dL_law_559 ?_
  refine y_int (nI (i + 1)) (nI_add i 1) ?_
  refine y_sld (j := (i + 1)) hx hb (hXd d0) hbl hbA hS (by omega) hL9 dL_law_560 ?_
  refine lw_i (As := [.int (xs (i + 1))]) (rest := [.int ans]) (⟨hx, hb, hml, hown, dr_words hts0 d0⟩ : CallFix p m c cL_law 8 (s.setDrawn d0) _ wsL_law RL) hM (cwV 1 (dr_words hts0 d0) gL_law_X5_breakOff rfl rfl rfl (by decide +kernel) ⟨Nat.le_of_ble_eq_true rfl, Nat.le_of_ble_eq_true rfl⟩) (hKd d0) hG (gH_m (hKd d0) hG) hS rfl hl.1 rfl (Nat.le_of_ble_eq_true rfl) dL_law_561 ⟨Nat.le_trans (show _ ≤ cells + 3 by omega) hc, Nat.le_trans (show _ ≤ slots + 33 by omega) hs⟩ (fun H locs hG hS => ?_)
  refine lv_icmp_eq (tgt := 625) hx hb dL_law_564 (by decide) (fun _ => ?_) (fun hc9 => absurd rfl hc9)
  refine W.widen (k := cells + 3) (n := slots + 33) (by omega) (by omega) ?_
  exact kk Z2 d0 _ _ _ hv2 hd0 hG hS (lv_sub hl [0, 1, 2, 3] rfl)
set_option maxHeartbeats 4000000 in
set_option maxRecDepth 100000 in
theorem law_record {p : Program} {e : Env} {s : State} {m : MethodId} {below : List Frame} {meth : Method} {c : Code} {l : Launch} {D : va_G} {t : Nat → ClassId} {b L : Nat} {xs : Nat → Int32} {x0 m0 : Nat} (hL : L ≤ 3072) (C0 : lw_At p s m meth c b L xs) (hKK : yK D t s) {i : Nat} (hi : i + 6 ≤ L) {Z : St} (hv : Inv Z) {d0 : Drawn} (hd0 : s.drawn.sameBut d0 lw_cs) {H : Heap} {locs : List Loc} {cells slots : Nat} (hG : gH D t s.heap.size x0 m0 Z Z H) (hS : va_S (fun q => s.heap.size ≤ q) s.heap H locs) (hc : cells + 3 ≤ 600000) (hs : slots + 33 ≤ 7302250) {ls : Array Slot} (hl : lv_has ls 8 [(0, .ref b), (1, .ref x0), (2, .ref m0), (3, .int (nI i))])
    (kk : ∀ (Z2 : St) (d1 : Drawn) (H1 : Heap) (locs1 : List Loc) (ls1 : Array Slot), Inv Z2 → s.drawn.sameBut d1 lw_cs → gH D t s.heap.size x0 m0 Z2 Z2 H1 → va_S (fun q => s.heap.size ≤ q) s.heap H1 locs1 → lv_has ls1 8 [(0, .ref b), (1, .ref x0), (2, .ref m0), (3, .int (nI i))] → W p l e room_1 (s.setDrawn d1) m #[Value.ref b] below meth c H1 locs1 (cells + 3) (slots + 33) (lw_Z below #[Value.ref b] s) (F0 m 625 ls1 [])) : W p l e room_1 (s.setDrawn d0) m #[Value.ref b] below meth c H locs cells slots (lw_Z below #[Value.ref b] s) (F0 m 569 ls []) := by
  obtain ⟨hx, hb, hr, hml, hown, hts1, hX, hbl, hlocks, hgv⟩ := C0
  have hts0 : ∀ w ∈ wsL_law, w.before #[Value.ref b] s = true := fun w h => hts1 w (wsL_law_in w h)
  have hbA : ¬ (fun q : Nat => s.heap.size ≤ q) b := Nat.not_le.mpr hbl
  have hKd : ∀ d, yK D t (s.setDrawn d) := fun d => hKK
  have hXd : ∀ d, va_X b L xs (s.setDrawn d) s.heap := fun d => hX
  have hL9 : L < 2 ^ 31 := by omega
  obtain ⟨ans, Z2, hv2, hI, hM⟩ := b_record l D t s.heap.size x0 m0 Z hv (xs (i + 1)) (xs (i + 2)) (xs (i + 3))
  refine lv_aload_n hx hb dL_law_569 rfl (lv_at hl 1 rfl) ?_
  refine lv_aload_n hx hb dL_law_570 rfl (lv_at hl 0 rfl) ?_
  refine lv_iload_n hx hb dL_law_571 rfl (lv_at hl 3 rfl) ?_
  refine lv_iconst (v := 1) hx hb dL_law_572 (by decide) ?_
  refine lv_iadd hx hb dL_law_573 ?_
  refine y_int (nI (i + 1)) (nI_add i 1) ?_
  refine y_sld (j := (i + 1)) hx hb (hXd d0) hbl hbA hS (by omega) hL9 dL_law_574 ?_
  refine lv_aload_n hx hb dL_law_575 rfl (lv_at hl 0 rfl) ?_
  refine lv_iload_n hx hb dL_law_576 rfl (lv_at hl 3 rfl) ?_
  refine lv_iconst (v := 2) hx hb dL_law_577 (by decide) ?_
  refine lv_iadd hx hb dL_law_578 ?_
  refine y_int (nI (i + 2)) (nI_add i 2) ?_
  refine y_sld (j := (i + 2)) hx hb (hXd d0) hbl hbA hS (by omega) hL9 dL_law_579 ?_
  refine lv_aload_n hx hb dL_law_580 rfl (lv_at hl 0 rfl) ?_
  refine lv_iload_n hx hb dL_law_581 rfl (lv_at hl 3 rfl) ?_
  refine lv_iconst (v := 3) hx hb dL_law_582 (by decide) ?_
  refine lv_iadd hx hb dL_law_583 ?_
  refine y_int (nI (i + 3)) (nI_add i 3) ?_
  refine y_sld (j := (i + 3)) hx hb (hXd d0) hbl hbA hS (by omega) hL9 dL_law_584 ?_
  refine lw_i (As := [.int (xs (i + 1)), .int (xs (i + 2)), .int (xs (i + 3))]) (rest := []) (⟨hx, hb, hml, hown, dr_words hts0 d0⟩ : CallFix p m c cL_law 8 (s.setDrawn d0) _ wsL_law RL) hI (cwV 3 (dr_words hts0 d0) gL_law_X4_record rfl rfl rfl (by decide +kernel) ⟨Nat.le_of_ble_eq_true rfl, Nat.le_of_ble_eq_true rfl⟩) (hKd d0) hG (gH_x (hKd d0) hG) hS rfl hl.1 rfl (Nat.le_of_ble_eq_true rfl) dL_law_585 ⟨Nat.le_trans (show _ ≤ cells + 3 by omega) hc, Nat.le_trans (show _ ≤ slots + 33 by omega) hs⟩ (fun H locs hG hS => ?_)
  refine lv_aload_n hx hb dL_law_588 rfl (lv_at hl 2 rfl) ?_
  refine lv_aload_n hx hb dL_law_589 rfl (lv_at hl 0 rfl) ?_
  refine lv_iload_n hx hb dL_law_590 rfl (lv_at hl 3 rfl) ?_
  refine lv_iconst (v := 1) hx hb dL_law_591 (by decide) ?_
  refine lv_iadd hx hb dL_law_592 ?_
  refine y_int (nI (i + 1)) (nI_add i 1) ?_
  refine y_sld (j := (i + 1)) hx hb (hXd d0) hbl hbA hS (by omega) hL9 dL_law_593 ?_
  refine lv_aload_n hx hb dL_law_594 rfl (lv_at hl 0 rfl) ?_
  refine lv_iload_n hx hb dL_law_595 rfl (lv_at hl 3 rfl) ?_
  refine lv_iconst (v := 2) hx hb dL_law_596 (by decide) ?_
  refine lv_iadd hx hb dL_law_597 ?_
  refine y_int (nI (i + 2)) (nI_add i 2) ?_
  refine y_sld (j := (i + 2)) hx hb (hXd d0) hbl hbA hS (by omega) hL9 dL_law_598 ?_
  refine lv_aload_n hx hb dL_law_599 rfl (lv_at hl 0 rfl) ?_
  refine lv_iload_n hx hb dL_law_600 rfl (lv_at hl 3 rfl) ?_
  refine lv_iconst (v := 3) hx hb dL_law_601 (by decide) ?_
  refine lv_iadd hx hb dL_law_602 ?_
  refine y_int (nI (i + 3)) (nI_add i 3) ?_
  refine y_sld (j := (i + 3)) hx hb (hXd d0) hbl hbA hS (by omega) hL9 dL_law_603 ?_
  refine lw_i (As := [.int (xs (i + 1)), .int (xs (i + 2)), .int (xs (i + 3))]) (rest := [.int ans]) (⟨hx, hb, hml, hown, dr_words hts0 d0⟩ : CallFix p m c cL_law 8 (s.setDrawn d0) _ wsL_law RL) hM (cwV 3 (dr_words hts0 d0) gL_law_X5_record rfl rfl rfl (by decide +kernel) ⟨Nat.le_of_ble_eq_true rfl, Nat.le_of_ble_eq_true rfl⟩) (hKd d0) hG (gH_m (hKd d0) hG) hS rfl hl.1 rfl (Nat.le_of_ble_eq_true rfl) dL_law_604 ⟨Nat.le_trans (show _ ≤ cells + 3 by omega) hc, Nat.le_trans (show _ ≤ slots + 33 by omega) hs⟩ (fun H locs hG hS => ?_)
  refine lv_icmp_eq (tgt := 625) hx hb dL_law_607 (by decide) (fun _ => ?_) (fun hc9 => absurd rfl hc9)
  refine W.widen (k := cells + 3) (n := slots + 33) (by omega) (by omega) ?_
  exact kk Z2 d0 _ _ _ hv2 hd0 hG hS (lv_sub hl [0, 1, 2, 3] rfl)
set_option maxHeartbeats 4000000 in
set_option maxRecDepth 100000 in
theorem law_states {p : Program} {e : Env} {s : State} {m : MethodId} {below : List Frame} {meth : Method} {c : Code} {l : Launch} {D : va_G} {t : Nat → ClassId} {b L : Nat} {xs : Nat → Int32} {x0 m0 : Nat} (hL : L ≤ 3072) (C0 : lw_At p s m meth c b L xs) (hKK : yK D t s) {i : Nat} (hi : i + 6 ≤ L) {Z : St} (hv : Inv Z) {d0 : Drawn} (hd0 : s.drawn.sameBut d0 lw_cs) {H : Heap} {locs : List Loc} {cells slots : Nat} (hG : gH D t s.heap.size x0 m0 Z Z H) (hS : va_S (fun q => s.heap.size ≤ q) s.heap H locs) (hc : cells + 3 ≤ 600000) (hs : slots + 33 ≤ 7302250) {ls : Array Slot} (hl : lv_has ls 8 [(0, .ref b), (1, .ref x0), (2, .ref m0), (3, .int (nI i))])
    (kk : ∀ (Z2 : St) (d1 : Drawn) (H1 : Heap) (locs1 : List Loc) (ls1 : Array Slot), Inv Z2 → s.drawn.sameBut d1 lw_cs → gH D t s.heap.size x0 m0 Z2 Z2 H1 → va_S (fun q => s.heap.size ≤ q) s.heap H1 locs1 → lv_has ls1 8 [(0, .ref b), (1, .ref x0), (2, .ref m0), (3, .int (nI i))] → W p l e room_1 (s.setDrawn d1) m #[Value.ref b] below meth c H1 locs1 (cells + 3) (slots + 33) (lw_Z below #[Value.ref b] s) (F0 m 625 ls1 [])) : W p l e room_1 (s.setDrawn d0) m #[Value.ref b] below meth c H locs cells slots (lw_Z below #[Value.ref b] s) (F0 m 612 ls []) := by
  obtain ⟨hx, hb, hr, hml, hown, hts1, hX, hbl, hlocks, hgv⟩ := C0
  have hts0 : ∀ w ∈ wsL_law, w.before #[Value.ref b] s = true := fun w h => hts1 w (wsL_law_in w h)
  have hbA : ¬ (fun q : Nat => s.heap.size ≤ q) b := Nat.not_le.mpr hbl
  have hKd : ∀ d, yK D t (s.setDrawn d) := fun d => hKK
  have hXd : ∀ d, va_X b L xs (s.setDrawn d) s.heap := fun d => hX
  have hL9 : L < 2 ^ 31 := by omega
  obtain ⟨ans, Z2, hv2, hI, hM⟩ := b_states l D t s.heap.size x0 m0 Z hv 
  refine lv_aload_n hx hb dL_law_612 rfl (lv_at hl 1 rfl) ?_
  refine lw_i (As := []) (rest := []) (⟨hx, hb, hml, hown, dr_words hts0 d0⟩ : CallFix p m c cL_law 8 (s.setDrawn d0) _ wsL_law RL) hI (cwV 0 (dr_words hts0 d0) gL_law_X4_states rfl rfl rfl (by decide +kernel) ⟨Nat.le_of_ble_eq_true rfl, Nat.le_of_ble_eq_true rfl⟩) (hKd d0) hG (gH_x (hKd d0) hG) hS rfl hl.1 rfl (Nat.le_of_ble_eq_true rfl) dL_law_613 ⟨Nat.le_trans (show _ ≤ cells + 3 by omega) hc, Nat.le_trans (show _ ≤ slots + 33 by omega) hs⟩ (fun H locs hG hS => ?_)
  refine lv_aload_n hx hb dL_law_616 rfl (lv_at hl 2 rfl) ?_
  refine lw_i (As := []) (rest := [.int ans]) (⟨hx, hb, hml, hown, dr_words hts0 d0⟩ : CallFix p m c cL_law 8 (s.setDrawn d0) _ wsL_law RL) hM (cwV 0 (dr_words hts0 d0) gL_law_X5_states rfl rfl rfl (by decide +kernel) ⟨Nat.le_of_ble_eq_true rfl, Nat.le_of_ble_eq_true rfl⟩) (hKd d0) hG (gH_m (hKd d0) hG) hS rfl hl.1 rfl (Nat.le_of_ble_eq_true rfl) dL_law_617 ⟨Nat.le_trans (show _ ≤ cells + 3 by omega) hc, Nat.le_trans (show _ ≤ slots + 33 by omega) hs⟩ (fun H locs hG hS => ?_)
  refine lv_icmp_eq (tgt := 625) hx hb dL_law_620 (by decide) (fun _ => ?_) (fun hc9 => absurd rfl hc9)
  refine W.widen (k := cells + 3) (n := slots + 33) (by omega) (by omega) ?_
  exact kk Z2 d0 _ _ _ hv2 hd0 hG hS (lv_sub hl [0, 1, 2, 3] rfl)
