/-! the law: one call, side by side -/
def lw_X (b : Nat) (S9 : pm_S) : Instr → List Value → pm_S → Prop := fun i st S => (i = .ireturn ∧ st = [.int 1]) ∨ (i = .iload 0 ∧ st = [.ref b] ∧ S = S9)
theorem lgc (x : Int64) : lg_cmp x x = 0 := by unfold lg_cmp; simp
abbrev lw_L (b x mm out j : Nat) (v5 v6 : Value) : List Value := [.ref b, .ref x, .ref mm, .ref out, .int (nI j), v5, v6]
abbrev lw_W (G : pm_G) (l : Launch) (bs kc ks b : Nat) (S9 : pm_S) (pc : Nat) (L st : List Value) (S : pm_S) : Prop := pm_W G l bs RL cL_law 7 false 12 kc ks (lw_X b S9) pc L st S
set_option maxRecDepth 20000 in
theorem pm_yl_word : Cond.codeWith yL_word cL_word 7 (some .int) (pm_tb 1) ∈ pm_ws ∧ Cond.initialized yL_word.cls ∈ pm_ws ∧ (yL_word.cls ≠ "java/lang/invoke/MethodHandle" ∧ yL_word.cls ≠ "java/lang/invoke/VarHandle") ∧ (parseMethodDescriptor yL_word.desc).map (fun d => d.parameters.length) = some 6 ∧ 7 ≤ 13 := ⟨pm_ws_of (List.mem_append_right _ (List.mem_of_getElem? (i := 146) rfl)) rfl, pm_ii_L, ⟨by decide +kernel, by decide +kernel⟩, by decide +kernel, by decide⟩
set_option maxRecDepth 20000 in
theorem pm_sl_word : Cond.static yL_word ∈ pm_ws := pm_ws_of (List.mem_append_right _ (List.mem_of_getElem? (i := 145) rfl)) rfl
set_option maxRecDepth 20000 in
theorem pm_yl_start : Cond.codeWith yL_start cL_start 5 (some .int) (pm_tb 2) ∈ pm_ws ∧ Cond.initialized yL_start.cls ∈ pm_ws ∧ (yL_start.cls ≠ "java/lang/invoke/MethodHandle" ∧ yL_start.cls ≠ "java/lang/invoke/VarHandle") ∧ (parseMethodDescriptor yL_start.desc).map (fun d => d.parameters.length) = some 4 ∧ 5 ≤ 13 := ⟨pm_ws_of (List.mem_append_right _ (List.mem_of_getElem? (i := 219) rfl)) rfl, pm_ii_L, ⟨by decide +kernel, by decide +kernel⟩, by decide +kernel, by decide⟩
set_option maxRecDepth 20000 in
theorem pm_sl_start : Cond.static yL_start ∈ pm_ws := pm_ws_of (List.mem_append_right _ (List.mem_of_getElem? (i := 218) rfl)) rfl
set_option maxRecDepth 20000 in
theorem pm_yl_send : Cond.codeWith yL_send cL_send 5 (some .int) (pm_tb 3) ∈ pm_ws ∧ Cond.initialized yL_send.cls ∈ pm_ws ∧ (yL_send.cls ≠ "java/lang/invoke/MethodHandle" ∧ yL_send.cls ≠ "java/lang/invoke/VarHandle") ∧ (parseMethodDescriptor yL_send.desc).map (fun d => d.parameters.length) = some 4 ∧ 5 ≤ 13 := ⟨pm_ws_of (List.mem_append_right _ (List.mem_of_getElem? (i := 370) rfl)) rfl, pm_ii_L, ⟨by decide +kernel, by decide +kernel⟩, by decide +kernel, by decide⟩
set_option maxRecDepth 20000 in
theorem pm_sl_send : Cond.static yL_send ∈ pm_ws := pm_ws_of (List.mem_append_right _ (List.mem_of_getElem? (i := 369) rfl)) rfl
set_option maxRecDepth 20000 in
theorem pm_yl_run : Cond.codeWith yL_run cL_run 4 (some .int) (pm_tb 4) ∈ pm_ws ∧ Cond.initialized yL_run.cls ∈ pm_ws ∧ (yL_run.cls ≠ "java/lang/invoke/MethodHandle" ∧ yL_run.cls ≠ "java/lang/invoke/VarHandle") ∧ (parseMethodDescriptor yL_run.desc).map (fun d => d.parameters.length) = some 3 ∧ 4 ≤ 13 := ⟨pm_ws_of (List.mem_append_right _ (List.mem_of_getElem? (i := 405) rfl)) rfl, pm_ii_L, ⟨by decide +kernel, by decide +kernel⟩, by decide +kernel, by decide⟩
set_option maxRecDepth 20000 in
theorem pm_sl_run : Cond.static yL_run ∈ pm_ws := pm_ws_of (List.mem_append_right _ (List.mem_of_getElem? (i := 404) rfl)) rfl
set_option maxRecDepth 20000 in
theorem pm_yl_pass : Cond.codeWith yL_pass cL_pass 4 (some .int) (pm_tb 5) ∈ pm_ws ∧ Cond.initialized yL_pass.cls ∈ pm_ws ∧ (yL_pass.cls ≠ "java/lang/invoke/MethodHandle" ∧ yL_pass.cls ≠ "java/lang/invoke/VarHandle") ∧ (parseMethodDescriptor yL_pass.desc).map (fun d => d.parameters.length) = some 3 ∧ 4 ≤ 13 := ⟨pm_ws_of (List.mem_append_right _ (List.mem_of_getElem? (i := 702) rfl)) rfl, pm_ii_L, ⟨by decide +kernel, by decide +kernel⟩, by decide +kernel, by decide⟩
set_option maxRecDepth 20000 in
theorem pm_sl_pass : Cond.static yL_pass ∈ pm_ws := pm_ws_of (List.mem_append_right _ (List.mem_of_getElem? (i := 701) rfl)) rfl
set_option maxRecDepth 20000 in
theorem pm_yl_process : Cond.codeWith yL_process cL_process 5 (some .int) (pm_tb 6) ∈ pm_ws ∧ Cond.initialized yL_process.cls ∈ pm_ws ∧ (yL_process.cls ≠ "java/lang/invoke/MethodHandle" ∧ yL_process.cls ≠ "java/lang/invoke/VarHandle") ∧ (parseMethodDescriptor yL_process.desc).map (fun d => d.parameters.length) = some 4 ∧ 5 ≤ 13 := ⟨pm_ws_of (List.mem_append_right _ (List.mem_of_getElem? (i := 713) rfl)) rfl, pm_ii_L, ⟨by decide +kernel, by decide +kernel⟩, by decide +kernel, by decide⟩
set_option maxRecDepth 20000 in
theorem pm_sl_process : Cond.static yL_process ∈ pm_ws := pm_ws_of (List.mem_append_right _ (List.mem_of_getElem? (i := 712) rfl)) rfl
set_option maxRecDepth 20000 in
theorem pm_yl_register : Cond.codeWith yL_register cL_register 6 (some .int) (pm_tb 7) ∈ pm_ws ∧ Cond.initialized yL_register.cls ∈ pm_ws ∧ (yL_register.cls ≠ "java/lang/invoke/MethodHandle" ∧ yL_register.cls ≠ "java/lang/invoke/VarHandle") ∧ (parseMethodDescriptor yL_register.desc).map (fun d => d.parameters.length) = some 5 ∧ 6 ≤ 13 := ⟨pm_ws_of (List.mem_append_right _ (List.mem_of_getElem? (i := 730) rfl)) rfl, pm_ii_L, ⟨by decide +kernel, by decide +kernel⟩, by decide +kernel, by decide⟩
set_option maxRecDepth 20000 in
theorem pm_sl_register : Cond.static yL_register ∈ pm_ws := pm_ws_of (List.mem_append_right _ (List.mem_of_getElem? (i := 729) rfl)) rfl
set_option maxRecDepth 20000 in
theorem pm_yl_message : Cond.codeWith yL_message cL_message 6 (some .int) (pm_tb 8) ∈ pm_ws ∧ Cond.initialized yL_message.cls ∈ pm_ws ∧ (yL_message.cls ≠ "java/lang/invoke/MethodHandle" ∧ yL_message.cls ≠ "java/lang/invoke/VarHandle") ∧ (parseMethodDescriptor yL_message.desc).map (fun d => d.parameters.length) = some 5 ∧ 6 ≤ 13 := ⟨pm_ws_of (List.mem_append_right _ (List.mem_of_getElem? (i := 741) rfl)) rfl, pm_ii_L, ⟨by decide +kernel, by decide +kernel⟩, by decide +kernel, by decide⟩
set_option maxRecDepth 20000 in
theorem pm_sl_message : Cond.static yL_message ∈ pm_ws := pm_ws_of (List.mem_append_right _ (List.mem_of_getElem? (i := 740) rfl)) rfl
set_option maxRecDepth 20000 in
theorem pm_yl_total : Cond.codeWith yL_total cL_total 4 (some .int) (pm_tb 9) ∈ pm_ws ∧ Cond.initialized yL_total.cls ∈ pm_ws ∧ (yL_total.cls ≠ "java/lang/invoke/MethodHandle" ∧ yL_total.cls ≠ "java/lang/invoke/VarHandle") ∧ (parseMethodDescriptor yL_total.desc).map (fun d => d.parameters.length) = some 3 ∧ 4 ≤ 13 := ⟨pm_ws_of (List.mem_append_right _ (List.mem_of_getElem? (i := 749) rfl)) rfl, pm_ii_L, ⟨by decide +kernel, by decide +kernel⟩, by decide +kernel, by decide⟩
set_option maxRecDepth 20000 in
theorem pm_sl_total : Cond.static yL_total ∈ pm_ws := pm_ws_of (List.mem_append_right _ (List.mem_of_getElem? (i := 748) rfl)) rfl
set_option maxHeartbeats 4000000 in
set_option maxRecDepth 100000 in
theorem g_word (G : pm_G) (l : Launch) (bs b x mm out j : Nat) (v5 v6 : Value) (S S9 : pm_S) (kc ks kc1 ks1 kc2 ks2 d7 : Nat) (hkc : kc1 + kc2 ≤ kc) (hks : ks1 + ks2 ≤ ks) (h31 : pm_n S9 b < 2 ^ 31) (hj : j + 6 ≤ pm_n S9 b) (hd7 : d7 + 1 ≤ 12) (post1 : Int32 → pm_S → Prop) (post2 : Int32 → pm_S → pm_S → Prop)
    (hM1 : pm_ML G l bs yL_word cL_word 7 1 10 kc1 ks1 [.ref x, .int (pm_x S9 b (j + 1)), .int (pm_x S9 b (j + 2)), .int (pm_x S9 b (j + 3)), .int (pm_x S9 b (j + 4)), .int (pm_x S9 b (j + 5))] S post1)
    (hM2 : ∀ r S1, post1 r S1 → pm_k S1 mm = 8 ∧ pm_M G l bs yX7_word cX7_word 6 none d7 0 0 [.ref mm, .int (pm_x S9 b (j + 1)), .int (pm_x S9 b (j + 2)), .int (pm_x S9 b (j + 3)), .int (pm_x S9 b (j + 4)), .int (pm_x S9 b (j + 5))] S1 (pm_qv (post2 r S1)))
    (hM3 : ∀ r S1 S2, post1 r S1 → post2 r S1 S2 → pm_k S2 mm = 8 ∧ pm_M G l bs yX7_thrown cX7_thrown 1 (some .int) 0 0 0 [.ref mm] S2 (pm_qi (fun t S3 => t = r ∧ S3 = S2)))
    (hN : ∀ r S1 S2 (w5 w6 : Value), post1 r S1 → post2 r S1 S2 → lw_W G l bs kc2 ks2 b S9 744 (lw_L b x mm out j w5 w6) [] S2) : lw_W G l bs kc ks b S9 96 (lw_L b x mm out j v5 v6) [] S := by
  refine pm_aload_n dL_law_96 rfl ?_
  refine pm_aload_n dL_law_97 rfl ?_
  refine pm_iload dL_law_98 rfl ?_
  refine pm_iconst (v := 1) dL_law_100 (by decide) ?_
  refine pm_iadd dL_law_101 ?_
  refine pm_scri (k := 0) (j := j + 1) (S9 := S9) (Or.inr ⟨rfl, rfl, rfl⟩) (nI_add _ _) (by omega) h31 dL_law_102 ?_
  refine pm_aload_n dL_law_103 rfl ?_
  refine pm_iload dL_law_104 rfl ?_
  refine pm_iconst (v := 2) dL_law_106 (by decide) ?_
  refine pm_iadd dL_law_107 ?_
  refine pm_scri (k := 0) (j := j + 2) (S9 := S9) (Or.inr ⟨rfl, rfl, rfl⟩) (nI_add _ _) (by omega) h31 dL_law_108 ?_
  refine pm_aload_n dL_law_109 rfl ?_
  refine pm_iload dL_law_110 rfl ?_
  refine pm_iconst (v := 3) dL_law_112 (by decide) ?_
  refine pm_iadd dL_law_113 ?_
  refine pm_scri (k := 0) (j := j + 3) (S9 := S9) (Or.inr ⟨rfl, rfl, rfl⟩) (nI_add _ _) (by omega) h31 dL_law_114 ?_
  refine pm_aload_n dL_law_115 rfl ?_
  refine pm_iload dL_law_116 rfl ?_
  refine pm_iconst (v := 4) dL_law_118 (by decide) ?_
  refine pm_iadd dL_law_119 ?_
  refine pm_scri (k := 0) (j := j + 4) (S9 := S9) (Or.inr ⟨rfl, rfl, rfl⟩) (nI_add _ _) (by omega) h31 dL_law_120 ?_
  refine pm_aload_n dL_law_121 rfl ?_
  refine pm_iload dL_law_122 rfl ?_
  refine pm_iconst (v := 5) dL_law_124 (by decide) ?_
  refine pm_iadd dL_law_125 ?_
  refine pm_scri (k := 0) (j := j + 5) (S9 := S9) (Or.inr ⟨rfl, rfl, rfl⟩) (nI_add _ _) (by omega) h31 dL_law_126 ?_
  refine pm_callL (k := 1) (k9 := 0) (st9 := [.ref b]) (S9 := S9) (Or.inr ⟨rfl, rfl, rfl⟩) hM1 pm_yl_word pm_sl_word pm_m_L_49 dL_law_127 rfl rfl (by decide) (Nat.le_of_ble_eq_true rfl) hkc hks (fun r S1 h1 => ?_)
  refine pm_istore dL_law_130 (by decide) ?_
  dsimp only [List.set]
  refine pm_aload_n dL_law_132 rfl ?_
  refine pm_aload_n dL_law_133 rfl ?_
  refine pm_iload dL_law_134 rfl ?_
  refine pm_iconst (v := 1) dL_law_136 (by decide) ?_
  refine pm_iadd dL_law_137 ?_
  refine pm_scri (k := 0) (j := j + 1) (S9 := S9) (Or.inr ⟨rfl, rfl, rfl⟩) (nI_add _ _) (by omega) h31 dL_law_138 ?_
  refine pm_aload_n dL_law_139 rfl ?_
  refine pm_iload dL_law_140 rfl ?_
  refine pm_iconst (v := 2) dL_law_142 (by decide) ?_
  refine pm_iadd dL_law_143 ?_
  refine pm_scri (k := 0) (j := j + 2) (S9 := S9) (Or.inr ⟨rfl, rfl, rfl⟩) (nI_add _ _) (by omega) h31 dL_law_144 ?_
  refine pm_aload_n dL_law_145 rfl ?_
  refine pm_iload dL_law_146 rfl ?_
  refine pm_iconst (v := 3) dL_law_148 (by decide) ?_
  refine pm_iadd dL_law_149 ?_
  refine pm_scri (k := 0) (j := j + 3) (S9 := S9) (Or.inr ⟨rfl, rfl, rfl⟩) (nI_add _ _) (by omega) h31 dL_law_150 ?_
  refine pm_aload_n dL_law_151 rfl ?_
  refine pm_iload dL_law_152 rfl ?_
  refine pm_iconst (v := 4) dL_law_154 (by decide) ?_
  refine pm_iadd dL_law_155 ?_
  refine pm_scri (k := 0) (j := j + 4) (S9 := S9) (Or.inr ⟨rfl, rfl, rfl⟩) (nI_add _ _) (by omega) h31 dL_law_156 ?_
  refine pm_aload_n dL_law_157 rfl ?_
  refine pm_iload dL_law_158 rfl ?_
  refine pm_iconst (v := 5) dL_law_160 (by decide) ?_
  refine pm_iadd dL_law_161 ?_
  refine pm_scri (k := 0) (j := j + 5) (S9 := S9) (Or.inr ⟨rfl, rfl, rfl⟩) (nI_add _ _) (by omega) h31 dL_law_162 ?_
  refine pm_vv (hM2 r S1 h1).2 pm_y_X7_word pm_v_X7_word pm_m_L_54 (c := 7) (r := (RX7, TX7, 41)) rfl rfl (hM2 r S1 h1).1 dL_law_163 rfl rfl (by omega) (Nat.le_of_ble_eq_true rfl) (fun S2 h2 => ?_)
  refine pm_aload_n dL_law_166 rfl ?_
  refine pm_vi (hM3 r S1 S2 h1 h2).2 pm_y_X7_thrown pm_v_X7_thrown pm_m_L_55 (c := 7) (r := (RX7, TX7, 41)) rfl rfl (hM3 r S1 S2 h1 h2).1 dL_law_167 rfl rfl (by decide) (Nat.le_of_ble_eq_true rfl) (fun t S3 h3 => ?_)
  obtain ⟨e3, e4⟩ := h3
  rw [e3, e4]
  refine pm_iload dL_law_170 rfl ?_
  refine pm_icmp_eq (tgt := 177) dL_law_172 (by decide) (fun h172 => ?_) (fun h172 => ?_)
  · skip
    refine pm_goto (tgt := 744) dL_law_177 (by decide) ?_
    exact hN r S1 S2 _ _ h1 h2
  · exact absurd rfl h172
set_option maxHeartbeats 4000000 in
set_option maxRecDepth 100000 in
theorem g_start (G : pm_G) (l : Launch) (bs b x mm out j : Nat) (v5 v6 : Value) (S S9 : pm_S) (kc ks kc1 ks1 kc2 ks2 d7 : Nat) (hkc : kc1 + kc2 ≤ kc) (hks : ks1 + ks2 ≤ ks) (h31 : pm_n S9 b < 2 ^ 31) (hj : j + 6 ≤ pm_n S9 b) (hd7 : d7 + 1 ≤ 12) (post1 : Int32 → pm_S → Prop) (post2 : Int32 → pm_S → Int32 → pm_S → Prop)
    (hM1 : pm_ML G l bs yL_start cL_start 5 2 10 kc1 ks1 [.ref x, .int (pm_x S9 b (j + 1)), .int (pm_x S9 b (j + 2)), .ref out] S post1)
    (hM2 : ∀ r S1, post1 r S1 → pm_k S1 mm = 8 ∧ pm_M G l bs yX7_start cX7_start 3 (some .int) d7 0 0 [.ref mm, .int (pm_x S9 b (j + 1)), .int (pm_x S9 b (j + 2))] S1 (pm_qi (post2 r S1)))
    (hM3 : ∀ r S1 a S2, post1 r S1 → post2 r S1 a S2 → pm_k S2 mm = 8 ∧ pm_M G l bs yX7_thrown cX7_thrown 1 (some .int) 0 0 0 [.ref mm] S2 (pm_qi (fun t S3 => t = r ∧ S3 = S2)))
    (hC : ∀ r S1 a S2, post1 r S1 → post2 r S1 a S2 → r = 0 → pm_k S2 out = 11 ∧ pm_n S2 out = 1 ∧ pm_y S2 out 0 = a.toInt64)
    (hN : ∀ r S1 a S2 (w5 w6 : Value), post1 r S1 → post2 r S1 a S2 → lw_W G l bs kc2 ks2 b S9 744 (lw_L b x mm out j w5 w6) [] S2) : lw_W G l bs kc ks b S9 180 (lw_L b x mm out j v5 v6) [] S := by
  refine pm_aload_n dL_law_180 rfl ?_
  refine pm_aload_n dL_law_181 rfl ?_
  refine pm_iload dL_law_182 rfl ?_
  refine pm_iconst (v := 1) dL_law_184 (by decide) ?_
  refine pm_iadd dL_law_185 ?_
  refine pm_scri (k := 0) (j := j + 1) (S9 := S9) (Or.inr ⟨rfl, rfl, rfl⟩) (nI_add _ _) (by omega) h31 dL_law_186 ?_
  refine pm_aload_n dL_law_187 rfl ?_
  refine pm_iload dL_law_188 rfl ?_
  refine pm_iconst (v := 2) dL_law_190 (by decide) ?_
  refine pm_iadd dL_law_191 ?_
  refine pm_scri (k := 0) (j := j + 2) (S9 := S9) (Or.inr ⟨rfl, rfl, rfl⟩) (nI_add _ _) (by omega) h31 dL_law_192 ?_
  refine pm_aload_n dL_law_193 rfl ?_
  refine pm_callL (k := 2) (k9 := 0) (st9 := [.ref b]) (S9 := S9) (Or.inr ⟨rfl, rfl, rfl⟩) hM1 pm_yl_start pm_sl_start pm_m_L_59 dL_law_194 rfl rfl (by decide) (Nat.le_of_ble_eq_true rfl) hkc hks (fun r S1 h1 => ?_)
  refine pm_istore dL_law_197 (by decide) ?_
  dsimp only [List.set]
  refine pm_aload_n dL_law_199 rfl ?_
  refine pm_aload_n dL_law_200 rfl ?_
  refine pm_iload dL_law_201 rfl ?_
  refine pm_iconst (v := 1) dL_law_203 (by decide) ?_
  refine pm_iadd dL_law_204 ?_
  refine pm_scri (k := 0) (j := j + 1) (S9 := S9) (Or.inr ⟨rfl, rfl, rfl⟩) (nI_add _ _) (by omega) h31 dL_law_205 ?_
  refine pm_aload_n dL_law_206 rfl ?_
  refine pm_iload dL_law_207 rfl ?_
  refine pm_iconst (v := 2) dL_law_209 (by decide) ?_
  refine pm_iadd dL_law_210 ?_
  refine pm_scri (k := 0) (j := j + 2) (S9 := S9) (Or.inr ⟨rfl, rfl, rfl⟩) (nI_add _ _) (by omega) h31 dL_law_211 ?_
  refine pm_vi (hM2 r S1 h1).2 pm_y_X7_start pm_v_X7_start pm_m_L_62 (c := 7) (r := (RX7, TX7, 41)) rfl rfl (hM2 r S1 h1).1 dL_law_212 rfl rfl (by omega) (Nat.le_of_ble_eq_true rfl) (fun a S2 h2 => ?_)
  refine pm_istore dL_law_215 (by decide) ?_
  dsimp only [List.set]
  refine pm_aload_n dL_law_217 rfl ?_
  refine pm_vi (hM3 r S1 a S2 h1 h2).2 pm_y_X7_thrown pm_v_X7_thrown pm_m_L_55 (c := 7) (r := (RX7, TX7, 41)) rfl rfl (hM3 r S1 a S2 h1 h2).1 dL_law_218 rfl rfl (by decide) (Nat.le_of_ble_eq_true rfl) (fun t S3 h3 => ?_)
  obtain ⟨e3, e4⟩ := h3
  rw [e3, e4]
  refine pm_iload dL_law_221 rfl ?_
  refine pm_icmp_eq (tgt := 228) dL_law_223 (by decide) (fun h223 => ?_) (fun h223 => ?_)
  · skip
    refine pm_iload dL_law_228 rfl ?_
    refine pm_if_ne (tgt := 245) dL_law_230 (by decide) (fun h230 => ?_) (fun h230 => ?_)
    · skip
      refine pm_goto (tgt := 744) dL_law_245 (by decide) ?_
      exact hN r S1 a S2 _ _ h1 h2
    · skip
      refine pm_aload_n dL_law_233 rfl ?_
      refine pm_iconst (v := 0) dL_law_234 (by decide) ?_
      obtain ⟨o1, o2, o3⟩ := hC r S1 a S2 h1 h2 h230
      refine pm_laload (n := 0) o1 rfl (by rw [o2]; decide) (by rw [o2]; decide) dL_law_235 ?_
      rw [o3]
      refine pm_iload dL_law_236 rfl ?_
      refine pm_i2l dL_law_238 ?_
      refine pm_lcmp dL_law_239 ?_
      rw [lgc]
      refine pm_if_eq (tgt := 245) dL_law_240 (by decide) (fun h240 => ?_) (fun h240 => ?_)
      · skip
        refine pm_goto (tgt := 744) dL_law_245 (by decide) ?_
        exact hN r S1 a S2 _ _ h1 h2
      · exact absurd rfl h240
  · exact absurd rfl h223
set_option maxHeartbeats 4000000 in
set_option maxRecDepth 100000 in
theorem g_send (G : pm_G) (l : Launch) (bs b x mm out j : Nat) (v5 v6 : Value) (S S9 : pm_S) (kc ks kc1 ks1 kc2 ks2 d7 : Nat) (hkc : kc1 + kc2 ≤ kc) (hks : ks1 + ks2 ≤ ks) (h31 : pm_n S9 b < 2 ^ 31) (hj : j + 6 ≤ pm_n S9 b) (hd7 : d7 + 1 ≤ 12) (post1 : Int32 → pm_S → Prop) (post2 : Int32 → pm_S → Int32 → pm_S → Prop)
    (hM1 : pm_ML G l bs yL_send cL_send 5 3 10 kc1 ks1 [.ref x, .int (pm_x S9 b (j + 1)), .int (pm_x S9 b (j + 2)), .ref out] S post1)
    (hM2 : ∀ r S1, post1 r S1 → pm_k S1 mm = 8 ∧ pm_M G l bs yX7_send cX7_send 3 (some .boolean) d7 0 0 [.ref mm, .int (pm_x S9 b (j + 1)), .int (pm_x S9 b (j + 2))] S1 (pm_qi (post2 r S1)))
    (hM3 : ∀ r S1 a S2, post1 r S1 → post2 r S1 a S2 → pm_k S2 mm = 8 ∧ pm_M G l bs yX7_thrown cX7_thrown 1 (some .int) 0 0 0 [.ref mm] S2 (pm_qi (fun t S3 => t = r ∧ S3 = S2)))
    (hC : ∀ r S1 a S2, post1 r S1 → post2 r S1 a S2 → r = 0 → pm_k S2 out = 11 ∧ pm_n S2 out = 1 ∧ pm_y S2 out 0 = (if a = 0 then 0 else 1))
    (hN : ∀ r S1 a S2 (w5 w6 : Value), post1 r S1 → post2 r S1 a S2 → lw_W G l bs kc2 ks2 b S9 744 (lw_L b x mm out j w5 w6) [] S2) : lw_W G l bs kc ks b S9 248 (lw_L b x mm out j v5 v6) [] S := by
  refine pm_aload_n dL_law_248 rfl ?_
  refine pm_aload_n dL_law_249 rfl ?_
  refine pm_iload dL_law_250 rfl ?_
  refine pm_iconst (v := 1) dL_law_252 (by decide) ?_
  refine pm_iadd dL_law_253 ?_
  refine pm_scri (k := 0) (j := j + 1) (S9 := S9) (Or.inr ⟨rfl, rfl, rfl⟩) (nI_add _ _) (by omega) h31 dL_law_254 ?_
  refine pm_aload_n dL_law_255 rfl ?_
  refine pm_iload dL_law_256 rfl ?_
  refine pm_iconst (v := 2) dL_law_258 (by decide) ?_
  refine pm_iadd dL_law_259 ?_
  refine pm_scri (k := 0) (j := j + 2) (S9 := S9) (Or.inr ⟨rfl, rfl, rfl⟩) (nI_add _ _) (by omega) h31 dL_law_260 ?_
  refine pm_aload_n dL_law_261 rfl ?_
  refine pm_callL (k := 3) (k9 := 0) (st9 := [.ref b]) (S9 := S9) (Or.inr ⟨rfl, rfl, rfl⟩) hM1 pm_yl_send pm_sl_send pm_m_L_63 dL_law_262 rfl rfl (by decide) (Nat.le_of_ble_eq_true rfl) hkc hks (fun r S1 h1 => ?_)
  refine pm_istore dL_law_265 (by decide) ?_
  dsimp only [List.set]
  refine pm_aload_n dL_law_267 rfl ?_
  refine pm_aload_n dL_law_268 rfl ?_
  refine pm_iload dL_law_269 rfl ?_
  refine pm_iconst (v := 1) dL_law_271 (by decide) ?_
  refine pm_iadd dL_law_272 ?_
  refine pm_scri (k := 0) (j := j + 1) (S9 := S9) (Or.inr ⟨rfl, rfl, rfl⟩) (nI_add _ _) (by omega) h31 dL_law_273 ?_
  refine pm_aload_n dL_law_274 rfl ?_
  refine pm_iload dL_law_275 rfl ?_
  refine pm_iconst (v := 2) dL_law_277 (by decide) ?_
  refine pm_iadd dL_law_278 ?_
  refine pm_scri (k := 0) (j := j + 2) (S9 := S9) (Or.inr ⟨rfl, rfl, rfl⟩) (nI_add _ _) (by omega) h31 dL_law_279 ?_
  refine pm_vi (hM2 r S1 h1).2 pm_y_X7_send pm_v_X7_send pm_m_L_65 (c := 7) (r := (RX7, TX7, 41)) rfl rfl (hM2 r S1 h1).1 dL_law_280 rfl rfl (by omega) (Nat.le_of_ble_eq_true rfl) (fun a S2 h2 => ?_)
  refine pm_istore dL_law_283 (by decide) ?_
  dsimp only [List.set]
  refine pm_aload_n dL_law_285 rfl ?_
  refine pm_vi (hM3 r S1 a S2 h1 h2).2 pm_y_X7_thrown pm_v_X7_thrown pm_m_L_55 (c := 7) (r := (RX7, TX7, 41)) rfl rfl (hM3 r S1 a S2 h1 h2).1 dL_law_286 rfl rfl (by decide) (Nat.le_of_ble_eq_true rfl) (fun t S3 h3 => ?_)
  obtain ⟨e3, e4⟩ := h3
  rw [e3, e4]
  refine pm_iload dL_law_289 rfl ?_
  refine pm_icmp_eq (tgt := 296) dL_law_291 (by decide) (fun h291 => ?_) (fun h291 => ?_)
  · skip
    refine pm_iload dL_law_296 rfl ?_
    refine pm_if_ne (tgt := 320) dL_law_298 (by decide) (fun h298 => ?_) (fun h298 => ?_)
    · skip
      refine pm_goto (tgt := 744) dL_law_320 (by decide) ?_
      exact hN r S1 a S2 _ _ h1 h2
    · skip
      refine pm_aload_n dL_law_301 rfl ?_
      refine pm_iconst (v := 0) dL_law_302 (by decide) ?_
      obtain ⟨o1, o2, o3⟩ := hC r S1 a S2 h1 h2 h298
      refine pm_laload (n := 0) o1 rfl (by rw [o2]; decide) (by rw [o2]; decide) dL_law_303 ?_
      rw [o3]
      refine pm_iload dL_law_304 rfl ?_
      refine pm_if_eq (tgt := 313) dL_law_306 (by decide) (fun h306 => ?_) (fun h306 => ?_)
      · skip
        rw [if_pos h306]
        refine pm_lconst (v := 0) dL_law_313 (by decide) ?_
        refine pm_lcmp dL_law_314 ?_
        rw [lgc]
        refine pm_if_eq (tgt := 320) dL_law_315 (by decide) (fun h315 => ?_) (fun h315 => ?_)
        · skip
          refine pm_goto (tgt := 744) dL_law_320 (by decide) ?_
          exact hN r S1 a S2 _ _ h1 h2
        · exact absurd rfl h315
      · skip
        rw [if_neg h306]
        refine pm_lconst (v := 1) dL_law_309 (by decide) ?_
        refine pm_goto (tgt := 314) dL_law_310 (by decide) ?_
        refine pm_lcmp dL_law_314 ?_
        rw [lgc]
        refine pm_if_eq (tgt := 320) dL_law_315 (by decide) (fun h315 => ?_) (fun h315 => ?_)
        · skip
          refine pm_goto (tgt := 744) dL_law_320 (by decide) ?_
          exact hN r S1 a S2 _ _ h1 h2
        · exact absurd rfl h315
  · exact absurd rfl h291
set_option maxHeartbeats 4000000 in
set_option maxRecDepth 100000 in
theorem g_run (G : pm_G) (l : Launch) (bs b x mm out j : Nat) (v5 v6 : Value) (S S9 : pm_S) (kc ks kc1 ks1 kc2 ks2 d7 : Nat) (hkc : kc1 + kc2 ≤ kc) (hks : ks1 + ks2 ≤ ks) (h31 : pm_n S9 b < 2 ^ 31) (hj : j + 6 ≤ pm_n S9 b) (hd7 : d7 + 1 ≤ 12) (post1 : Int32 → pm_S → Prop) (post2 : Int32 → pm_S → Int32 → pm_S → Prop)
    (hM1 : pm_ML G l bs yL_run cL_run 4 4 10 kc1 ks1 [.ref x, .int (pm_x S9 b (j + 1)), .ref out] S post1)
    (hM2 : ∀ r S1, post1 r S1 → pm_k S1 mm = 8 ∧ pm_M G l bs yX7_run cX7_run 7 (some .int) d7 0 0 [.ref mm, .int (pm_x S9 b (j + 1))] S1 (pm_qi (post2 r S1)))
    (hM3 : ∀ r S1 a S2, post1 r S1 → post2 r S1 a S2 → pm_k S2 mm = 8 ∧ pm_M G l bs yX7_thrown cX7_thrown 1 (some .int) 0 0 0 [.ref mm] S2 (pm_qi (fun t S3 => t = r ∧ S3 = S2)))
    (hC : ∀ r S1 a S2, post1 r S1 → post2 r S1 a S2 → r = 0 → pm_k S2 out = 11 ∧ pm_n S2 out = 1 ∧ pm_y S2 out 0 = a.toInt64)
    (hN : ∀ r S1 a S2 (w5 w6 : Value), post1 r S1 → post2 r S1 a S2 → lw_W G l bs kc2 ks2 b S9 744 (lw_L b x mm out j w5 w6) [] S2) : lw_W G l bs kc ks b S9 323 (lw_L b x mm out j v5 v6) [] S := by
  refine pm_aload_n dL_law_323 rfl ?_
  refine pm_aload_n dL_law_324 rfl ?_
  refine pm_iload dL_law_325 rfl ?_
  refine pm_iconst (v := 1) dL_law_327 (by decide) ?_
  refine pm_iadd dL_law_328 ?_
  refine pm_scri (k := 0) (j := j + 1) (S9 := S9) (Or.inr ⟨rfl, rfl, rfl⟩) (nI_add _ _) (by omega) h31 dL_law_329 ?_
  refine pm_aload_n dL_law_330 rfl ?_
  refine pm_callL (k := 4) (k9 := 0) (st9 := [.ref b]) (S9 := S9) (Or.inr ⟨rfl, rfl, rfl⟩) hM1 pm_yl_run pm_sl_run pm_m_L_66 dL_law_331 rfl rfl (by decide) (Nat.le_of_ble_eq_true rfl) hkc hks (fun r S1 h1 => ?_)
  refine pm_istore dL_law_334 (by decide) ?_
  dsimp only [List.set]
  refine pm_aload_n dL_law_336 rfl ?_
  refine pm_aload_n dL_law_337 rfl ?_
  refine pm_iload dL_law_338 rfl ?_
  refine pm_iconst (v := 1) dL_law_340 (by decide) ?_
  refine pm_iadd dL_law_341 ?_
  refine pm_scri (k := 0) (j := j + 1) (S9 := S9) (Or.inr ⟨rfl, rfl, rfl⟩) (nI_add _ _) (by omega) h31 dL_law_342 ?_
  refine pm_vi (hM2 r S1 h1).2 pm_y_X7_run pm_v_X7_run pm_m_L_69 (c := 7) (r := (RX7, TX7, 41)) rfl rfl (hM2 r S1 h1).1 dL_law_343 rfl rfl (by omega) (Nat.le_of_ble_eq_true rfl) (fun a S2 h2 => ?_)
  refine pm_istore dL_law_346 (by decide) ?_
  dsimp only [List.set]
  refine pm_aload_n dL_law_348 rfl ?_
  refine pm_vi (hM3 r S1 a S2 h1 h2).2 pm_y_X7_thrown pm_v_X7_thrown pm_m_L_55 (c := 7) (r := (RX7, TX7, 41)) rfl rfl (hM3 r S1 a S2 h1 h2).1 dL_law_349 rfl rfl (by decide) (Nat.le_of_ble_eq_true rfl) (fun t S3 h3 => ?_)
  obtain ⟨e3, e4⟩ := h3
  rw [e3, e4]
  refine pm_iload dL_law_352 rfl ?_
  refine pm_icmp_eq (tgt := 359) dL_law_354 (by decide) (fun h354 => ?_) (fun h354 => ?_)
  · skip
    refine pm_iload dL_law_359 rfl ?_
    refine pm_if_ne (tgt := 376) dL_law_361 (by decide) (fun h361 => ?_) (fun h361 => ?_)
    · skip
      refine pm_goto (tgt := 744) dL_law_376 (by decide) ?_
      exact hN r S1 a S2 _ _ h1 h2
    · skip
      refine pm_aload_n dL_law_364 rfl ?_
      refine pm_iconst (v := 0) dL_law_365 (by decide) ?_
      obtain ⟨o1, o2, o3⟩ := hC r S1 a S2 h1 h2 h361
      refine pm_laload (n := 0) o1 rfl (by rw [o2]; decide) (by rw [o2]; decide) dL_law_366 ?_
      rw [o3]
      refine pm_iload dL_law_367 rfl ?_
      refine pm_i2l dL_law_369 ?_
      refine pm_lcmp dL_law_370 ?_
      rw [lgc]
      refine pm_if_eq (tgt := 376) dL_law_371 (by decide) (fun h371 => ?_) (fun h371 => ?_)
      · skip
        refine pm_goto (tgt := 744) dL_law_376 (by decide) ?_
        exact hN r S1 a S2 _ _ h1 h2
      · exact absurd rfl h371
  · exact absurd rfl h354
set_option maxHeartbeats 4000000 in
set_option maxRecDepth 100000 in
theorem g_pass (G : pm_G) (l : Launch) (bs b x mm out j : Nat) (v5 v6 : Value) (S S9 : pm_S) (kc ks kc1 ks1 kc2 ks2 d7 : Nat) (hkc : kc1 + kc2 ≤ kc) (hks : ks1 + ks2 ≤ ks) (h31 : pm_n S9 b < 2 ^ 31) (hj : j + 6 ≤ pm_n S9 b) (hd7 : d7 + 1 ≤ 12) (post1 : Int32 → pm_S → Prop) (post2 : Int32 → pm_S → Int32 → pm_S → Prop)
    (hM1 : pm_ML G l bs yL_pass cL_pass 4 5 10 kc1 ks1 [.ref x, .int (pm_x S9 b (j + 1)), .ref out] S post1)
    (hM2 : ∀ r S1, post1 r S1 → pm_k S1 mm = 8 ∧ pm_M G l bs yX7_pass cX7_pass 5 (some .int) d7 0 0 [.ref mm, .int (pm_x S9 b (j + 1))] S1 (pm_qi (post2 r S1)))
    (hM3 : ∀ r S1 a S2, post1 r S1 → post2 r S1 a S2 → pm_k S2 mm = 8 ∧ pm_M G l bs yX7_thrown cX7_thrown 1 (some .int) 0 0 0 [.ref mm] S2 (pm_qi (fun t S3 => t = r ∧ S3 = S2)))
    (hC : ∀ r S1 a S2, post1 r S1 → post2 r S1 a S2 → r = 0 → pm_k S2 out = 11 ∧ pm_n S2 out = 1 ∧ pm_y S2 out 0 = a.toInt64)
    (hN : ∀ r S1 a S2 (w5 w6 : Value), post1 r S1 → post2 r S1 a S2 → lw_W G l bs kc2 ks2 b S9 744 (lw_L b x mm out j w5 w6) [] S2) : lw_W G l bs kc ks b S9 379 (lw_L b x mm out j v5 v6) [] S := by
  refine pm_aload_n dL_law_379 rfl ?_
  refine pm_aload_n dL_law_380 rfl ?_
  refine pm_iload dL_law_381 rfl ?_
  refine pm_iconst (v := 1) dL_law_383 (by decide) ?_
  refine pm_iadd dL_law_384 ?_
  refine pm_scri (k := 0) (j := j + 1) (S9 := S9) (Or.inr ⟨rfl, rfl, rfl⟩) (nI_add _ _) (by omega) h31 dL_law_385 ?_
  refine pm_aload_n dL_law_386 rfl ?_
  refine pm_callL (k := 5) (k9 := 0) (st9 := [.ref b]) (S9 := S9) (Or.inr ⟨rfl, rfl, rfl⟩) hM1 pm_yl_pass pm_sl_pass pm_m_L_70 dL_law_387 rfl rfl (by decide) (Nat.le_of_ble_eq_true rfl) hkc hks (fun r S1 h1 => ?_)
  refine pm_istore dL_law_390 (by decide) ?_
  dsimp only [List.set]
  refine pm_aload_n dL_law_392 rfl ?_
  refine pm_aload_n dL_law_393 rfl ?_
  refine pm_iload dL_law_394 rfl ?_
  refine pm_iconst (v := 1) dL_law_396 (by decide) ?_
  refine pm_iadd dL_law_397 ?_
  refine pm_scri (k := 0) (j := j + 1) (S9 := S9) (Or.inr ⟨rfl, rfl, rfl⟩) (nI_add _ _) (by omega) h31 dL_law_398 ?_
  refine pm_vi (hM2 r S1 h1).2 pm_y_X7_pass pm_v_X7_pass pm_m_L_72 (c := 7) (r := (RX7, TX7, 41)) rfl rfl (hM2 r S1 h1).1 dL_law_399 rfl rfl (by omega) (Nat.le_of_ble_eq_true rfl) (fun a S2 h2 => ?_)
  refine pm_istore dL_law_402 (by decide) ?_
  dsimp only [List.set]
  refine pm_aload_n dL_law_404 rfl ?_
  refine pm_vi (hM3 r S1 a S2 h1 h2).2 pm_y_X7_thrown pm_v_X7_thrown pm_m_L_55 (c := 7) (r := (RX7, TX7, 41)) rfl rfl (hM3 r S1 a S2 h1 h2).1 dL_law_405 rfl rfl (by decide) (Nat.le_of_ble_eq_true rfl) (fun t S3 h3 => ?_)
  obtain ⟨e3, e4⟩ := h3
  rw [e3, e4]
  refine pm_iload dL_law_408 rfl ?_
  refine pm_icmp_eq (tgt := 415) dL_law_410 (by decide) (fun h410 => ?_) (fun h410 => ?_)
  · skip
    refine pm_iload dL_law_415 rfl ?_
    refine pm_if_ne (tgt := 432) dL_law_417 (by decide) (fun h417 => ?_) (fun h417 => ?_)
    · skip
      refine pm_goto (tgt := 744) dL_law_432 (by decide) ?_
      exact hN r S1 a S2 _ _ h1 h2
    · skip
      refine pm_aload_n dL_law_420 rfl ?_
      refine pm_iconst (v := 0) dL_law_421 (by decide) ?_
      obtain ⟨o1, o2, o3⟩ := hC r S1 a S2 h1 h2 h417
      refine pm_laload (n := 0) o1 rfl (by rw [o2]; decide) (by rw [o2]; decide) dL_law_422 ?_
      rw [o3]
      refine pm_iload dL_law_423 rfl ?_
      refine pm_i2l dL_law_425 ?_
      refine pm_lcmp dL_law_426 ?_
      rw [lgc]
      refine pm_if_eq (tgt := 432) dL_law_427 (by decide) (fun h427 => ?_) (fun h427 => ?_)
      · skip
        refine pm_goto (tgt := 744) dL_law_432 (by decide) ?_
        exact hN r S1 a S2 _ _ h1 h2
      · exact absurd rfl h427
  · exact absurd rfl h410
set_option maxHeartbeats 4000000 in
set_option maxRecDepth 100000 in
theorem g_process (G : pm_G) (l : Launch) (bs b x mm out j : Nat) (v5 v6 : Value) (S S9 : pm_S) (kc ks kc1 ks1 kc2 ks2 d7 : Nat) (hkc : kc1 + kc2 ≤ kc) (hks : ks1 + ks2 ≤ ks) (h31 : pm_n S9 b < 2 ^ 31) (hj : j + 6 ≤ pm_n S9 b) (hd7 : d7 + 1 ≤ 12) (post1 : Int32 → pm_S → Prop) (post2 : Int32 → pm_S → Int32 → pm_S → Prop)
    (hM1 : pm_ML G l bs yL_process cL_process 5 6 10 kc1 ks1 [.ref x, .int (pm_x S9 b (j + 1)), .int (pm_x S9 b (j + 2)), .ref out] S post1)
    (hM2 : ∀ r S1, post1 r S1 → pm_k S1 mm = 8 ∧ pm_M G l bs yX7_process cX7_process 6 (some .int) d7 0 0 [.ref mm, .int (pm_x S9 b (j + 1)), .int (pm_x S9 b (j + 2))] S1 (pm_qi (post2 r S1)))
    (hM3 : ∀ r S1 a S2, post1 r S1 → post2 r S1 a S2 → pm_k S2 mm = 8 ∧ pm_M G l bs yX7_thrown cX7_thrown 1 (some .int) 0 0 0 [.ref mm] S2 (pm_qi (fun t S3 => t = r ∧ S3 = S2)))
    (hC : ∀ r S1 a S2, post1 r S1 → post2 r S1 a S2 → r = 0 → pm_k S2 out = 11 ∧ pm_n S2 out = 1 ∧ pm_y S2 out 0 = a.toInt64)
    (hN : ∀ r S1 a S2 (w5 w6 : Value), post1 r S1 → post2 r S1 a S2 → lw_W G l bs kc2 ks2 b S9 744 (lw_L b x mm out j w5 w6) [] S2) : lw_W G l bs kc ks b S9 460 (lw_L b x mm out j v5 v6) [] S := by
  refine pm_aload_n dL_law_460 rfl ?_
  refine pm_aload_n dL_law_461 rfl ?_
  refine pm_iload dL_law_462 rfl ?_
  refine pm_iconst (v := 1) dL_law_464 (by decide) ?_
  refine pm_iadd dL_law_465 ?_
  refine pm_scri (k := 0) (j := j + 1) (S9 := S9) (Or.inr ⟨rfl, rfl, rfl⟩) (nI_add _ _) (by omega) h31 dL_law_466 ?_
  refine pm_aload_n dL_law_467 rfl ?_
  refine pm_iload dL_law_468 rfl ?_
  refine pm_iconst (v := 2) dL_law_470 (by decide) ?_
  refine pm_iadd dL_law_471 ?_
  refine pm_scri (k := 0) (j := j + 2) (S9 := S9) (Or.inr ⟨rfl, rfl, rfl⟩) (nI_add _ _) (by omega) h31 dL_law_472 ?_
  refine pm_aload_n dL_law_473 rfl ?_
  refine pm_callL (k := 6) (k9 := 0) (st9 := [.ref b]) (S9 := S9) (Or.inr ⟨rfl, rfl, rfl⟩) hM1 pm_yl_process pm_sl_process pm_m_L_77 dL_law_474 rfl rfl (by decide) (Nat.le_of_ble_eq_true rfl) hkc hks (fun r S1 h1 => ?_)
  refine pm_istore dL_law_477 (by decide) ?_
  dsimp only [List.set]
  refine pm_aload_n dL_law_479 rfl ?_
  refine pm_aload_n dL_law_480 rfl ?_
  refine pm_iload dL_law_481 rfl ?_
  refine pm_iconst (v := 1) dL_law_483 (by decide) ?_
  refine pm_iadd dL_law_484 ?_
  refine pm_scri (k := 0) (j := j + 1) (S9 := S9) (Or.inr ⟨rfl, rfl, rfl⟩) (nI_add _ _) (by omega) h31 dL_law_485 ?_
  refine pm_aload_n dL_law_486 rfl ?_
  refine pm_iload dL_law_487 rfl ?_
  refine pm_iconst (v := 2) dL_law_489 (by decide) ?_
  refine pm_iadd dL_law_490 ?_
  refine pm_scri (k := 0) (j := j + 2) (S9 := S9) (Or.inr ⟨rfl, rfl, rfl⟩) (nI_add _ _) (by omega) h31 dL_law_491 ?_
  refine pm_vi (hM2 r S1 h1).2 pm_y_X7_process pm_v_X7_process pm_m_L_79 (c := 7) (r := (RX7, TX7, 41)) rfl rfl (hM2 r S1 h1).1 dL_law_492 rfl rfl (by omega) (Nat.le_of_ble_eq_true rfl) (fun a S2 h2 => ?_)
  refine pm_istore dL_law_495 (by decide) ?_
  dsimp only [List.set]
  refine pm_aload_n dL_law_497 rfl ?_
  refine pm_vi (hM3 r S1 a S2 h1 h2).2 pm_y_X7_thrown pm_v_X7_thrown pm_m_L_55 (c := 7) (r := (RX7, TX7, 41)) rfl rfl (hM3 r S1 a S2 h1 h2).1 dL_law_498 rfl rfl (by decide) (Nat.le_of_ble_eq_true rfl) (fun t S3 h3 => ?_)
  obtain ⟨e3, e4⟩ := h3
  rw [e3, e4]
  refine pm_iload dL_law_501 rfl ?_
  refine pm_icmp_eq (tgt := 508) dL_law_503 (by decide) (fun h503 => ?_) (fun h503 => ?_)
  · skip
    refine pm_iload dL_law_508 rfl ?_
    refine pm_if_ne (tgt := 525) dL_law_510 (by decide) (fun h510 => ?_) (fun h510 => ?_)
    · skip
      refine pm_goto (tgt := 744) dL_law_525 (by decide) ?_
      exact hN r S1 a S2 _ _ h1 h2
    · skip
      refine pm_aload_n dL_law_513 rfl ?_
      refine pm_iconst (v := 0) dL_law_514 (by decide) ?_
      obtain ⟨o1, o2, o3⟩ := hC r S1 a S2 h1 h2 h510
      refine pm_laload (n := 0) o1 rfl (by rw [o2]; decide) (by rw [o2]; decide) dL_law_515 ?_
      rw [o3]
      refine pm_iload dL_law_516 rfl ?_
      refine pm_i2l dL_law_518 ?_
      refine pm_lcmp dL_law_519 ?_
      rw [lgc]
      refine pm_if_eq (tgt := 525) dL_law_520 (by decide) (fun h520 => ?_) (fun h520 => ?_)
      · skip
        refine pm_goto (tgt := 744) dL_law_525 (by decide) ?_
        exact hN r S1 a S2 _ _ h1 h2
      · exact absurd rfl h520
  · exact absurd rfl h503
set_option maxHeartbeats 4000000 in
set_option maxRecDepth 100000 in
theorem g_register (G : pm_G) (l : Launch) (bs b x mm out j : Nat) (v5 v6 : Value) (S S9 : pm_S) (kc ks kc1 ks1 kc2 ks2 d7 : Nat) (hkc : kc1 + kc2 ≤ kc) (hks : ks1 + ks2 ≤ ks) (h31 : pm_n S9 b < 2 ^ 31) (hj : j + 6 ≤ pm_n S9 b) (hd7 : d7 + 1 ≤ 12) (post1 : Int32 → pm_S → Prop) (post2 : Int32 → pm_S → Int32 → pm_S → Prop)
    (hM1 : pm_ML G l bs yL_register cL_register 6 7 10 kc1 ks1 [.ref x, .int (pm_x S9 b (j + 1)), .int (pm_x S9 b (j + 2)), .int (pm_x S9 b (j + 3)), .ref out] S post1)
    (hM2 : ∀ r S1, post1 r S1 → pm_k S1 mm = 8 ∧ pm_M G l bs yX7_register cX7_register 4 (some .int) d7 0 0 [.ref mm, .int (pm_x S9 b (j + 1)), .int (pm_x S9 b (j + 2)), .int (pm_x S9 b (j + 3))] S1 (pm_qi (post2 r S1)))
    (hM3 : ∀ r S1 a S2, post1 r S1 → post2 r S1 a S2 → pm_k S2 mm = 8 ∧ pm_M G l bs yX7_thrown cX7_thrown 1 (some .int) 0 0 0 [.ref mm] S2 (pm_qi (fun t S3 => t = r ∧ S3 = S2)))
    (hC : ∀ r S1 a S2, post1 r S1 → post2 r S1 a S2 → r = 0 → pm_k S2 out = 11 ∧ pm_n S2 out = 1 ∧ pm_y S2 out 0 = a.toInt64)
    (hN : ∀ r S1 a S2 (w5 w6 : Value), post1 r S1 → post2 r S1 a S2 → lw_W G l bs kc2 ks2 b S9 744 (lw_L b x mm out j w5 w6) [] S2) : lw_W G l bs kc ks b S9 528 (lw_L b x mm out j v5 v6) [] S := by
  refine pm_aload_n dL_law_528 rfl ?_
  refine pm_aload_n dL_law_529 rfl ?_
  refine pm_iload dL_law_530 rfl ?_
  refine pm_iconst (v := 1) dL_law_532 (by decide) ?_
  refine pm_iadd dL_law_533 ?_
  refine pm_scri (k := 0) (j := j + 1) (S9 := S9) (Or.inr ⟨rfl, rfl, rfl⟩) (nI_add _ _) (by omega) h31 dL_law_534 ?_
  refine pm_aload_n dL_law_535 rfl ?_
  refine pm_iload dL_law_536 rfl ?_
  refine pm_iconst (v := 2) dL_law_538 (by decide) ?_
  refine pm_iadd dL_law_539 ?_
  refine pm_scri (k := 0) (j := j + 2) (S9 := S9) (Or.inr ⟨rfl, rfl, rfl⟩) (nI_add _ _) (by omega) h31 dL_law_540 ?_
  refine pm_aload_n dL_law_541 rfl ?_
  refine pm_iload dL_law_542 rfl ?_
  refine pm_iconst (v := 3) dL_law_544 (by decide) ?_
  refine pm_iadd dL_law_545 ?_
  refine pm_scri (k := 0) (j := j + 3) (S9 := S9) (Or.inr ⟨rfl, rfl, rfl⟩) (nI_add _ _) (by omega) h31 dL_law_546 ?_
  refine pm_aload_n dL_law_547 rfl ?_
  refine pm_callL (k := 7) (k9 := 0) (st9 := [.ref b]) (S9 := S9) (Or.inr ⟨rfl, rfl, rfl⟩) hM1 pm_yl_register pm_sl_register pm_m_L_80 dL_law_548 rfl rfl (by decide) (Nat.le_of_ble_eq_true rfl) hkc hks (fun r S1 h1 => ?_)
  refine pm_istore dL_law_551 (by decide) ?_
  dsimp only [List.set]
  refine pm_aload_n dL_law_553 rfl ?_
  refine pm_aload_n dL_law_554 rfl ?_
  refine pm_iload dL_law_555 rfl ?_
  refine pm_iconst (v := 1) dL_law_557 (by decide) ?_
  refine pm_iadd dL_law_558 ?_
  refine pm_scri (k := 0) (j := j + 1) (S9 := S9) (Or.inr ⟨rfl, rfl, rfl⟩) (nI_add _ _) (by omega) h31 dL_law_559 ?_
  refine pm_aload_n dL_law_560 rfl ?_
  refine pm_iload dL_law_561 rfl ?_
  refine pm_iconst (v := 2) dL_law_563 (by decide) ?_
  refine pm_iadd dL_law_564 ?_
  refine pm_scri (k := 0) (j := j + 2) (S9 := S9) (Or.inr ⟨rfl, rfl, rfl⟩) (nI_add _ _) (by omega) h31 dL_law_565 ?_
  refine pm_aload_n dL_law_566 rfl ?_
  refine pm_iload dL_law_567 rfl ?_
  refine pm_iconst (v := 3) dL_law_569 (by decide) ?_
  refine pm_iadd dL_law_570 ?_
  refine pm_scri (k := 0) (j := j + 3) (S9 := S9) (Or.inr ⟨rfl, rfl, rfl⟩) (nI_add _ _) (by omega) h31 dL_law_571 ?_
  refine pm_vi (hM2 r S1 h1).2 pm_y_X7_register pm_v_X7_register pm_m_L_83 (c := 7) (r := (RX7, TX7, 41)) rfl rfl (hM2 r S1 h1).1 dL_law_572 rfl rfl (by omega) (Nat.le_of_ble_eq_true rfl) (fun a S2 h2 => ?_)
  refine pm_istore dL_law_575 (by decide) ?_
  dsimp only [List.set]
  refine pm_aload_n dL_law_577 rfl ?_
  refine pm_vi (hM3 r S1 a S2 h1 h2).2 pm_y_X7_thrown pm_v_X7_thrown pm_m_L_55 (c := 7) (r := (RX7, TX7, 41)) rfl rfl (hM3 r S1 a S2 h1 h2).1 dL_law_578 rfl rfl (by decide) (Nat.le_of_ble_eq_true rfl) (fun t S3 h3 => ?_)
  obtain ⟨e3, e4⟩ := h3
  rw [e3, e4]
  refine pm_iload dL_law_581 rfl ?_
  refine pm_icmp_eq (tgt := 588) dL_law_583 (by decide) (fun h583 => ?_) (fun h583 => ?_)
  · skip
    refine pm_iload dL_law_588 rfl ?_
    refine pm_if_ne (tgt := 605) dL_law_590 (by decide) (fun h590 => ?_) (fun h590 => ?_)
    · skip
      refine pm_goto (tgt := 744) dL_law_605 (by decide) ?_
      exact hN r S1 a S2 _ _ h1 h2
    · skip
      refine pm_aload_n dL_law_593 rfl ?_
      refine pm_iconst (v := 0) dL_law_594 (by decide) ?_
      obtain ⟨o1, o2, o3⟩ := hC r S1 a S2 h1 h2 h590
      refine pm_laload (n := 0) o1 rfl (by rw [o2]; decide) (by rw [o2]; decide) dL_law_595 ?_
      rw [o3]
      refine pm_iload dL_law_596 rfl ?_
      refine pm_i2l dL_law_598 ?_
      refine pm_lcmp dL_law_599 ?_
      rw [lgc]
      refine pm_if_eq (tgt := 605) dL_law_600 (by decide) (fun h600 => ?_) (fun h600 => ?_)
      · skip
        refine pm_goto (tgt := 744) dL_law_605 (by decide) ?_
        exact hN r S1 a S2 _ _ h1 h2
      · exact absurd rfl h600
  · exact absurd rfl h583
set_option maxHeartbeats 4000000 in
set_option maxRecDepth 100000 in
theorem g_message (G : pm_G) (l : Launch) (bs b x mm out j : Nat) (v5 v6 : Value) (S S9 : pm_S) (kc ks kc1 ks1 kc2 ks2 d7 : Nat) (hkc : kc1 + kc2 ≤ kc) (hks : ks1 + ks2 ≤ ks) (h31 : pm_n S9 b < 2 ^ 31) (hj : j + 6 ≤ pm_n S9 b) (hd7 : d7 + 1 ≤ 12) (post1 : Int32 → pm_S → Prop) (post2 : Int32 → pm_S → Int32 → pm_S → Prop)
    (hM1 : pm_ML G l bs yL_message cL_message 6 8 10 kc1 ks1 [.ref x, .int (pm_x S9 b (j + 1)), .int (pm_x S9 b (j + 2)), .int (pm_x S9 b (j + 3)), .ref out] S post1)
    (hM2 : ∀ r S1, post1 r S1 → pm_k S1 mm = 8 ∧ pm_M G l bs yX7_message cX7_message 4 (some .int) d7 0 0 [.ref mm, .int (pm_x S9 b (j + 1)), .int (pm_x S9 b (j + 2)), .int (pm_x S9 b (j + 3))] S1 (pm_qi (post2 r S1)))
    (hM3 : ∀ r S1 a S2, post1 r S1 → post2 r S1 a S2 → pm_k S2 mm = 8 ∧ pm_M G l bs yX7_thrown cX7_thrown 1 (some .int) 0 0 0 [.ref mm] S2 (pm_qi (fun t S3 => t = r ∧ S3 = S2)))
    (hC : ∀ r S1 a S2, post1 r S1 → post2 r S1 a S2 → r = 0 → pm_k S2 out = 11 ∧ pm_n S2 out = 1 ∧ pm_y S2 out 0 = a.toInt64)
    (hN : ∀ r S1 a S2 (w5 w6 : Value), post1 r S1 → post2 r S1 a S2 → lw_W G l bs kc2 ks2 b S9 744 (lw_L b x mm out j w5 w6) [] S2) : lw_W G l bs kc ks b S9 608 (lw_L b x mm out j v5 v6) [] S := by
  refine pm_aload_n dL_law_608 rfl ?_
  refine pm_aload_n dL_law_609 rfl ?_
  refine pm_iload dL_law_610 rfl ?_
  refine pm_iconst (v := 1) dL_law_612 (by decide) ?_
  refine pm_iadd dL_law_613 ?_
  refine pm_scri (k := 0) (j := j + 1) (S9 := S9) (Or.inr ⟨rfl, rfl, rfl⟩) (nI_add _ _) (by omega) h31 dL_law_614 ?_
  refine pm_aload_n dL_law_615 rfl ?_
  refine pm_iload dL_law_616 rfl ?_
  refine pm_iconst (v := 2) dL_law_618 (by decide) ?_
  refine pm_iadd dL_law_619 ?_
  refine pm_scri (k := 0) (j := j + 2) (S9 := S9) (Or.inr ⟨rfl, rfl, rfl⟩) (nI_add _ _) (by omega) h31 dL_law_620 ?_
  refine pm_aload_n dL_law_621 rfl ?_
  refine pm_iload dL_law_622 rfl ?_
  refine pm_iconst (v := 3) dL_law_624 (by decide) ?_
  refine pm_iadd dL_law_625 ?_
  refine pm_scri (k := 0) (j := j + 3) (S9 := S9) (Or.inr ⟨rfl, rfl, rfl⟩) (nI_add _ _) (by omega) h31 dL_law_626 ?_
  refine pm_aload_n dL_law_627 rfl ?_
  refine pm_callL (k := 8) (k9 := 0) (st9 := [.ref b]) (S9 := S9) (Or.inr ⟨rfl, rfl, rfl⟩) hM1 pm_yl_message pm_sl_message pm_m_L_84 dL_law_628 rfl rfl (by decide) (Nat.le_of_ble_eq_true rfl) hkc hks (fun r S1 h1 => ?_)
  refine pm_istore dL_law_631 (by decide) ?_
  dsimp only [List.set]
  refine pm_aload_n dL_law_633 rfl ?_
  refine pm_aload_n dL_law_634 rfl ?_
  refine pm_iload dL_law_635 rfl ?_
  refine pm_iconst (v := 1) dL_law_637 (by decide) ?_
  refine pm_iadd dL_law_638 ?_
  refine pm_scri (k := 0) (j := j + 1) (S9 := S9) (Or.inr ⟨rfl, rfl, rfl⟩) (nI_add _ _) (by omega) h31 dL_law_639 ?_
  refine pm_aload_n dL_law_640 rfl ?_
  refine pm_iload dL_law_641 rfl ?_
  refine pm_iconst (v := 2) dL_law_643 (by decide) ?_
  refine pm_iadd dL_law_644 ?_
  refine pm_scri (k := 0) (j := j + 2) (S9 := S9) (Or.inr ⟨rfl, rfl, rfl⟩) (nI_add _ _) (by omega) h31 dL_law_645 ?_
  refine pm_aload_n dL_law_646 rfl ?_
  refine pm_iload dL_law_647 rfl ?_
  refine pm_iconst (v := 3) dL_law_649 (by decide) ?_
  refine pm_iadd dL_law_650 ?_
  refine pm_scri (k := 0) (j := j + 3) (S9 := S9) (Or.inr ⟨rfl, rfl, rfl⟩) (nI_add _ _) (by omega) h31 dL_law_651 ?_
  refine pm_vi (hM2 r S1 h1).2 pm_y_X7_message pm_v_X7_message pm_m_L_86 (c := 7) (r := (RX7, TX7, 41)) rfl rfl (hM2 r S1 h1).1 dL_law_652 rfl rfl (by omega) (Nat.le_of_ble_eq_true rfl) (fun a S2 h2 => ?_)
  refine pm_istore dL_law_655 (by decide) ?_
  dsimp only [List.set]
  refine pm_aload_n dL_law_657 rfl ?_
  refine pm_vi (hM3 r S1 a S2 h1 h2).2 pm_y_X7_thrown pm_v_X7_thrown pm_m_L_55 (c := 7) (r := (RX7, TX7, 41)) rfl rfl (hM3 r S1 a S2 h1 h2).1 dL_law_658 rfl rfl (by decide) (Nat.le_of_ble_eq_true rfl) (fun t S3 h3 => ?_)
  obtain ⟨e3, e4⟩ := h3
  rw [e3, e4]
  refine pm_iload dL_law_661 rfl ?_
  refine pm_icmp_eq (tgt := 668) dL_law_663 (by decide) (fun h663 => ?_) (fun h663 => ?_)
  · skip
    refine pm_iload dL_law_668 rfl ?_
    refine pm_if_ne (tgt := 685) dL_law_670 (by decide) (fun h670 => ?_) (fun h670 => ?_)
    · skip
      refine pm_goto (tgt := 744) dL_law_685 (by decide) ?_
      exact hN r S1 a S2 _ _ h1 h2
    · skip
      refine pm_aload_n dL_law_673 rfl ?_
      refine pm_iconst (v := 0) dL_law_674 (by decide) ?_
      obtain ⟨o1, o2, o3⟩ := hC r S1 a S2 h1 h2 h670
      refine pm_laload (n := 0) o1 rfl (by rw [o2]; decide) (by rw [o2]; decide) dL_law_675 ?_
      rw [o3]
      refine pm_iload dL_law_676 rfl ?_
      refine pm_i2l dL_law_678 ?_
      refine pm_lcmp dL_law_679 ?_
      rw [lgc]
      refine pm_if_eq (tgt := 685) dL_law_680 (by decide) (fun h680 => ?_) (fun h680 => ?_)
      · skip
        refine pm_goto (tgt := 744) dL_law_685 (by decide) ?_
        exact hN r S1 a S2 _ _ h1 h2
      · exact absurd rfl h680
  · exact absurd rfl h663
set_option maxHeartbeats 4000000 in
set_option maxRecDepth 100000 in
theorem g_total (G : pm_G) (l : Launch) (bs b x mm out j : Nat) (v5 v6 : Value) (S S9 : pm_S) (kc ks kc1 ks1 kc2 ks2 d7 : Nat) (hkc : kc1 + kc2 ≤ kc) (hks : ks1 + ks2 ≤ ks) (h31 : pm_n S9 b < 2 ^ 31) (hj : j + 6 ≤ pm_n S9 b) (hd7 : d7 + 1 ≤ 12) (post1 : Int32 → pm_S → Prop) (post2 : Int32 → pm_S → Int32 → pm_S → Prop)
    (hM1 : pm_ML G l bs yL_total cL_total 4 9 10 kc1 ks1 [.ref x, .int (pm_x S9 b (j + 1)), .ref out] S post1)
    (hM2 : ∀ r S1, post1 r S1 → pm_k S1 mm = 8 ∧ pm_M G l bs yX7_total cX7_total 5 (some .int) d7 0 0 [.ref mm, .int (pm_x S9 b (j + 1))] S1 (pm_qi (post2 r S1)))
    (hM3 : ∀ r S1 a S2, post1 r S1 → post2 r S1 a S2 → pm_k S2 mm = 8 ∧ pm_M G l bs yX7_thrown cX7_thrown 1 (some .int) 0 0 0 [.ref mm] S2 (pm_qi (fun t S3 => t = r ∧ S3 = S2)))
    (hC : ∀ r S1 a S2, post1 r S1 → post2 r S1 a S2 → r = 0 → pm_k S2 out = 11 ∧ pm_n S2 out = 1 ∧ pm_y S2 out 0 = a.toInt64)
    (hN : ∀ r S1 a S2 (w5 w6 : Value), post1 r S1 → post2 r S1 a S2 → lw_W G l bs kc2 ks2 b S9 744 (lw_L b x mm out j w5 w6) [] S2) : lw_W G l bs kc ks b S9 688 (lw_L b x mm out j v5 v6) [] S := by
  refine pm_aload_n dL_law_688 rfl ?_
  refine pm_aload_n dL_law_689 rfl ?_
  refine pm_iload dL_law_690 rfl ?_
  refine pm_iconst (v := 1) dL_law_692 (by decide) ?_
  refine pm_iadd dL_law_693 ?_
  refine pm_scri (k := 0) (j := j + 1) (S9 := S9) (Or.inr ⟨rfl, rfl, rfl⟩) (nI_add _ _) (by omega) h31 dL_law_694 ?_
  refine pm_aload_n dL_law_695 rfl ?_
  refine pm_callL (k := 9) (k9 := 0) (st9 := [.ref b]) (S9 := S9) (Or.inr ⟨rfl, rfl, rfl⟩) hM1 pm_yl_total pm_sl_total pm_m_L_87 dL_law_696 rfl rfl (by decide) (Nat.le_of_ble_eq_true rfl) hkc hks (fun r S1 h1 => ?_)
  refine pm_istore dL_law_699 (by decide) ?_
  dsimp only [List.set]
  refine pm_aload_n dL_law_701 rfl ?_
  refine pm_aload_n dL_law_702 rfl ?_
  refine pm_iload dL_law_703 rfl ?_
  refine pm_iconst (v := 1) dL_law_705 (by decide) ?_
  refine pm_iadd dL_law_706 ?_
  refine pm_scri (k := 0) (j := j + 1) (S9 := S9) (Or.inr ⟨rfl, rfl, rfl⟩) (nI_add _ _) (by omega) h31 dL_law_707 ?_
  refine pm_vi (hM2 r S1 h1).2 pm_y_X7_total pm_v_X7_total pm_m_L_89 (c := 7) (r := (RX7, TX7, 41)) rfl rfl (hM2 r S1 h1).1 dL_law_708 rfl rfl (by omega) (Nat.le_of_ble_eq_true rfl) (fun a S2 h2 => ?_)
  refine pm_istore dL_law_711 (by decide) ?_
  dsimp only [List.set]
  refine pm_aload_n dL_law_713 rfl ?_
  refine pm_vi (hM3 r S1 a S2 h1 h2).2 pm_y_X7_thrown pm_v_X7_thrown pm_m_L_55 (c := 7) (r := (RX7, TX7, 41)) rfl rfl (hM3 r S1 a S2 h1 h2).1 dL_law_714 rfl rfl (by decide) (Nat.le_of_ble_eq_true rfl) (fun t S3 h3 => ?_)
  obtain ⟨e3, e4⟩ := h3
  rw [e3, e4]
  refine pm_iload dL_law_717 rfl ?_
  refine pm_icmp_eq (tgt := 724) dL_law_719 (by decide) (fun h719 => ?_) (fun h719 => ?_)
  · skip
    refine pm_iload dL_law_724 rfl ?_
    refine pm_if_ne (tgt := 741) dL_law_726 (by decide) (fun h726 => ?_) (fun h726 => ?_)
    · skip
      refine pm_goto (tgt := 744) dL_law_741 (by decide) ?_
      exact hN r S1 a S2 _ _ h1 h2
    · skip
      refine pm_aload_n dL_law_729 rfl ?_
      refine pm_iconst (v := 0) dL_law_730 (by decide) ?_
      obtain ⟨o1, o2, o3⟩ := hC r S1 a S2 h1 h2 h726
      refine pm_laload (n := 0) o1 rfl (by rw [o2]; decide) (by rw [o2]; decide) dL_law_731 ?_
      rw [o3]
      refine pm_iload dL_law_732 rfl ?_
      refine pm_i2l dL_law_734 ?_
      refine pm_lcmp dL_law_735 ?_
      rw [lgc]
      refine pm_if_eq (tgt := 741) dL_law_736 (by decide) (fun h736 => ?_) (fun h736 => ?_)
      · skip
        refine pm_goto (tgt := 744) dL_law_741 (by decide) ?_
        exact hN r S1 a S2 _ _ h1 h2
      · exact absurd rfl h736
  · exact absurd rfl h719
set_option maxHeartbeats 4000000 in
set_option maxRecDepth 100000 in
theorem g_out (G : pm_G) (l : Launch) (bs b x mm out j : Nat) (v5 v6 : Value) (S S9 : pm_S) (kc ks : Nat) (h31 : pm_n S9 b < 2 ^ 31) (hj : j + 6 ≤ pm_n S9 b) (v : Int32) (post2 : pm_S → Prop) (hk1 : pm_k S x = 7) (hk2 : pm_k S mm = 8)
    (hM1 : pm_M G l bs yX6_out cX6_out 2 (some .int) 2 0 0 [.ref x, .int (pm_x S9 b (j + 1))] S (pm_qi (fun a S2 => a = v ∧ S2 = S)))
    (hM2 : pm_M G l bs yX7_out cX7_out 2 (some .int) 0 0 0 [.ref mm, .int (pm_x S9 b (j + 1))] S (pm_qi (fun a S2 => a = v ∧ post2 S2)))
    (hN : ∀ S2 (w5 w6 : Value), post2 S2 → lw_W G l bs kc ks b S9 744 (lw_L b x mm out j w5 w6) [] S2) : lw_W G l bs kc ks b S9 435 (lw_L b x mm out j v5 v6) [] S := by
  refine pm_aload_n dL_law_435 rfl ?_
  refine pm_aload_n dL_law_436 rfl ?_
  refine pm_iload dL_law_437 rfl ?_
  refine pm_iconst (v := 1) dL_law_439 (by decide) ?_
  refine pm_iadd dL_law_440 ?_
  refine pm_scri (k := 0) (j := j + 1) (S9 := S9) (Or.inr ⟨rfl, rfl, rfl⟩) (nI_add _ _) (by omega) h31 dL_law_441 ?_
  refine pm_vi hM1 pm_y_X6_out pm_v_X6_out pm_m_L_73 (c := 6) (r := (RX6, TX6, 16)) rfl rfl hk1 dL_law_442 rfl rfl (by decide) (Nat.le_of_ble_eq_true rfl) (fun r S1 h1 => ?_)
  obtain ⟨e1, e2⟩ := h1
  rw [e1, e2]
  refine pm_aload_n dL_law_445 rfl ?_
  refine pm_aload_n dL_law_446 rfl ?_
  refine pm_iload dL_law_447 rfl ?_
  refine pm_iconst (v := 1) dL_law_449 (by decide) ?_
  refine pm_iadd dL_law_450 ?_
  refine pm_scri (k := 0) (j := j + 1) (S9 := S9) (Or.inr ⟨rfl, rfl, rfl⟩) (nI_add _ _) (by omega) h31 dL_law_451 ?_
  refine pm_vi hM2 pm_y_X7_out pm_v_X7_out pm_m_L_76 (c := 7) (r := (RX7, TX7, 41)) rfl rfl hk2 dL_law_452 rfl rfl (by decide) (Nat.le_of_ble_eq_true rfl) (fun a S2 h2 => ?_)
  obtain ⟨e3, h3⟩ := h2
  rw [e3]
  refine pm_icmp_eq (tgt := 744) dL_law_455 (by decide) (fun h455 => ?_) (fun h455 => ?_)
  · skip
    exact hN S2 _ _ h3
  · exact absurd rfl h455
