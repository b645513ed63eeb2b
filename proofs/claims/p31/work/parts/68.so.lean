theorem hdL_isSo : yL_isSo.cls = RL ∧ yL_isSo.cls ≠ "java/lang/invoke/MethodHandle" ∧ yL_isSo.cls ≠ "java/lang/invoke/VarHandle" ∧ (parseMethodDescriptor yL_isSo.desc).map (fun d => d.parameters.length) = some 5 := ⟨rfl, by decide, by decide, by decide +kernel⟩
set_option maxHeartbeats 16000000 in
set_option maxRecDepth 100000 in
theorem met_L_isSo (l : Launch) (D : va_G) (cI cJ cO : ClassId) (o : Nat → Nat) (xx : Nat) (ak : Nat) (b : Nat) (tr : Nat) (hf : Int32) (sv : Nat) (an : Nat) (w1n : Nat) (wan : Nat) (pan : Nat) (ran : Nat) (san : Nat) (z : Nat → Int32) (twa : Nat) (zt : Nat → Int32) (rr : Nat) (y : Nat → Int32) (ga : Nat) (aa : Nat) (ba : Nat) (len : Nat) (k6 : Nat) (M : Int) (da : Nat) (hgd : good M z) (hM : M ≤ 10000000) (hQ : goodQ z) (hn : z 10 = nI len) (hn4 : len ≤ 40) (hz6 : z 6 = nI k6) : CIm l D (TY cI cJ cO) o cI yL_isSo wsL_isSo ({ frames := 8, cells := 1, slots := 22, locals := 184 }) 1 22 [.ref xx, .ref ga, .ref aa, .ref ba, .ref da] [oX xx an ak sv b tr hf, oS an w1n pan san z, aI cI san 4 12 z, oW w1n wan z, aI cI wan 6 19 z, oP pan ran z, aI cI ran 200 25 z, oV sv rr y, oW tr twa zt, aI cI twa 6 19 zt, aI cI ga 22 0 (gz z), aI cI aa 40 0 (pA z), aI cI ba 40 0 (pB z), aI cI da 40 0 (pD z)] 1 [oX xx an ak sv b tr hf, oS an w1n pan san z, aI cI san 4 12 z, oW w1n wan z, aI cI wan 6 19 z, oP pan ran z, aI cI ran 200 25 z, oV sv rr y, oW tr twa (utrs z zt 6), aI cI twa 6 19 (utrs z zt 6), aI cI ga 22 0 (gz z), aI cI aa 40 0 (pA z), aI cI ba 40 0 (pB z), aI cI da 40 0 (pD z)] := by
  refine CIm.ofM (by decide) rfl (Nat.le_of_ble_eq_true rfl) (rfl) (fun p e s m below meth c A ls Q X hA w ox hl fin => ?_)
  obtain ⟨hx, hb, hml, hown, hts⟩ := id X.1
  have hl : lv_has ls 7 [(0, .ref xx), (1, .ref ga), (2, .ref aa), (3, .ref ba), (4, .ref da)] := hl
  refine lv_iconst (v := 0) hx hb dL_isSo_0 (by decide) ?_
  refine lv_istore (lv' := [(5, .int 0), (0, .ref xx), (1, .ref ga), (2, .ref aa), (3, .ref ba), (4, .ref da)]) hx hb dL_isSo_1 hl (by decide) rfl (fun ls hl => ?_)
  have lp3 : ∀ (n : Nat) (i : Nat), i + n = len → ∀ (H : Heap) (locs : List Loc) (ls : Array Slot), wd D A s.heap H locs ([oX xx an ak sv b tr hf, oS an w1n pan san z, aI cI san 4 12 z, oW w1n wan z, aI cI wan 6 19 z, oP pan ran z, aI cI ran 200 25 z, oV sv rr y, oW tr twa zt, aI cI twa 6 19 zt, aI cI ga 22 0 (gz z), aI cI aa 40 0 (pA z), aI cI ba 40 0 (pB z), aI cI da 40 0 (pD z)]) → lv_has ls 7 [(5, .int (nI i)), (0, .ref xx), (1, .ref ga), (2, .ref aa), (3, .ref ba), (4, .ref da)] → W p l e ({ frames := 8, cells := 1, slots := 22, locals := 184 }) s m [.ref xx, .ref ga, .ref aa, .ref ba, .ref da].toArray below meth c H locs 0 0 Q (F0 m 3 ls []) := by
    intro n
    induction n with
    | zero =>
      intro i hi H locs ls w hl
      refine lv_iload hx hb dL_isSo_3 (lv_at hl 0 rfl) ?_
      refine lv_aload_n hx hb dL_isSo_5 rfl (lv_at hl 2 rfl) ?_
      refine lv_bipush (v := 10) hx hb dL_isSo_6 (by decide) ?_
      refine k_iald X w 10 0 rfl rfl 10 (kj := 10) rfl (by decide) (by decide) rfl (v := nI len) ((gz_o _ 10 (by decide)).trans hn) dL_isSo_8 ?_
      refine lv_icmp_ge (tgt := 110) hx hb dL_isSo_9 (by decide) (fun c1 => ?_) (fun c1 => absurd (nI_le (by omega) (by omega)) c1)
      refine lv_aload_n hx hb dL_isSo_110 rfl (lv_at hl 1 rfl) ?_
      refine lv_aload_n hx hb dL_isSo_111 rfl (lv_at hl 2 rfl) ?_
      refine lv_bipush (v := 10) hx hb dL_isSo_112 (by decide) ?_
      refine k_iald X w 10 0 rfl rfl 10 (kj := 10) rfl (by decide) (by decide) rfl (v := nI len) ((gz_o _ 10 (by decide)).trans hn) dL_isSo_114 ?_
      refine lv_iconst (v := 0) hx hb dL_isSo_115 (by decide) ?_
      refine k_ciR (k_runV X w (met_X5_reading l D cI cJ cO xx ak b tr hf sv an w1n wan pan ran san z len len 0 (by omega) hn hn4 (by decide) H.size) gL_isSo_X5_reading rfl rfl rfl 2 hdX5_reading ⟨Nat.le_of_ble_eq_true rfl, Nat.le_of_ble_eq_true rfl⟩ [0, 1, 2, 3, 4, 5, 6] rfl rfl 0 5 rfl rfl rfl rfl hl.1 rfl (Nat.le_of_ble_eq_true rfl) dL_isSo_116 ⟨Nat.le_of_ble_eq_true rfl, Nat.le_of_ble_eq_true rfl⟩) w hA [0, 1, 2, 3, 4, 5, 6] rfl (fun H locs w => ?_)
      refine lv_iconst (v := (-1)) hx hb dL_isSo_119 (by decide) ?_
      refine lv_icmp_ne (tgt := 305) hx hb dL_isSo_120 (by decide) (fun c2 => absurd (rn_n) c2) (fun c2 => ?_)
      refine lv_aload_n hx hb dL_isSo_123 rfl (lv_at hl 1 rfl) ?_
      refine lv_iconst (v := 0) hx hb dL_isSo_124 (by decide) ?_
      refine k_ciR (k_runV X w (met_X5_count l D cI cJ cO xx ak b tr hf sv an w1n wan pan ran san z rr y len k6 0 hz6 hn hn4 (by decide) H.size) gL_isSo_X5_count rfl rfl rfl 1 hdX5_count ⟨Nat.le_of_ble_eq_true rfl, Nat.le_of_ble_eq_true rfl⟩ [0, 1, 2, 3, 4, 5, 6, 7] rfl rfl 0 5 rfl rfl rfl rfl hl.1 rfl (Nat.le_of_ble_eq_true rfl) dL_isSo_125 ⟨Nat.le_of_ble_eq_true rfl, Nat.le_of_ble_eq_true rfl⟩) w hA [0, 1, 2, 3, 4, 5, 6, 7] rfl (fun H locs w => ?_)
      refine lv_aload_n hx hb dL_isSo_128 rfl (lv_at hl 2 rfl) ?_
      refine lv_iconst (v := 0) hx hb dL_isSo_129 (by decide) ?_
      refine k_iald X w 10 0 rfl rfl 0 (kj := 0) rfl (by decide) (by decide) rfl (v := z 0) (gz_o _ 0 (by decide)) dL_isSo_130 ?_
      refine lv_icmp_ne (tgt := 305) hx hb dL_isSo_131 (by decide) (fun c3 => absurd (rfl) c3) (fun c3 => ?_)
      refine lv_aload_n hx hb dL_isSo_134 rfl (lv_at hl 1 rfl) ?_
      refine lv_iconst (v := 1) hx hb dL_isSo_135 (by decide) ?_
      refine k_ciR (k_runV X w (met_X5_count l D cI cJ cO xx ak b tr hf sv an w1n wan pan ran san z rr y len k6 1 hz6 hn hn4 (by decide) H.size) gL_isSo_X5_count rfl rfl rfl 1 hdX5_count ⟨Nat.le_of_ble_eq_true rfl, Nat.le_of_ble_eq_true rfl⟩ [0, 1, 2, 3, 4, 5, 6, 7] rfl rfl 0 5 rfl rfl rfl rfl hl.1 rfl (Nat.le_of_ble_eq_true rfl) dL_isSo_136 ⟨Nat.le_of_ble_eq_true rfl, Nat.le_of_ble_eq_true rfl⟩) w hA [0, 1, 2, 3, 4, 5, 6, 7] rfl (fun H locs w => ?_)
      refine lv_aload_n hx hb dL_isSo_139 rfl (lv_at hl 2 rfl) ?_
      refine lv_iconst (v := 1) hx hb dL_isSo_140 (by decide) ?_
      refine k_iald X w 10 0 rfl rfl 1 (kj := 1) rfl (by decide) (by decide) rfl (v := z 1) (gz_o _ 1 (by decide)) dL_isSo_141 ?_
      refine lv_icmp_ne (tgt := 305) hx hb dL_isSo_142 (by decide) (fun c4 => absurd (rfl) c4) (fun c4 => ?_)
      refine lv_aload_n hx hb dL_isSo_145 rfl (lv_at hl 1 rfl) ?_
      refine lv_iconst (v := 2) hx hb dL_isSo_146 (by decide) ?_
      refine k_ciR (k_runV X w (met_X5_count l D cI cJ cO xx ak b tr hf sv an w1n wan pan ran san z rr y len k6 2 hz6 hn hn4 (by decide) H.size) gL_isSo_X5_count rfl rfl rfl 1 hdX5_count ⟨Nat.le_of_ble_eq_true rfl, Nat.le_of_ble_eq_true rfl⟩ [0, 1, 2, 3, 4, 5, 6, 7] rfl rfl 0 5 rfl rfl rfl rfl hl.1 rfl (Nat.le_of_ble_eq_true rfl) dL_isSo_147 ⟨Nat.le_of_ble_eq_true rfl, Nat.le_of_ble_eq_true rfl⟩) w hA [0, 1, 2, 3, 4, 5, 6, 7] rfl (fun H locs w => ?_)
      refine lv_aload_n hx hb dL_isSo_150 rfl (lv_at hl 2 rfl) ?_
      refine lv_iconst (v := 2) hx hb dL_isSo_151 (by decide) ?_
      refine k_iald X w 10 0 rfl rfl 2 (kj := 2) rfl (by decide) (by decide) rfl (v := z 2) (gz_o _ 2 (by decide)) dL_isSo_152 ?_
      refine lv_bipush (v := 100) hx hb dL_isSo_153 (by decide) ?_
      refine lv_iadd hx hb dL_isSo_155 ?_
      refine lv_icmp_ne (tgt := 305) hx hb dL_isSo_156 (by decide) (fun c5 => absurd (rfl) c5) (fun c5 => ?_)
      refine lv_aload_n hx hb dL_isSo_159 rfl (lv_at hl 1 rfl) ?_
      refine lv_iconst (v := 3) hx hb dL_isSo_160 (by decide) ?_
      refine k_ciR (k_runV X w (met_X5_count l D cI cJ cO xx ak b tr hf sv an w1n wan pan ran san z rr y len k6 3 hz6 hn hn4 (by decide) H.size) gL_isSo_X5_count rfl rfl rfl 1 hdX5_count ⟨Nat.le_of_ble_eq_true rfl, Nat.le_of_ble_eq_true rfl⟩ [0, 1, 2, 3, 4, 5, 6, 7] rfl rfl 0 5 rfl rfl rfl rfl hl.1 rfl (Nat.le_of_ble_eq_true rfl) dL_isSo_161 ⟨Nat.le_of_ble_eq_true rfl, Nat.le_of_ble_eq_true rfl⟩) w hA [0, 1, 2, 3, 4, 5, 6, 7] rfl (fun H locs w => ?_)
      refine lv_aload_n hx hb dL_isSo_164 rfl (lv_at hl 2 rfl) ?_
      refine lv_iconst (v := 3) hx hb dL_isSo_165 (by decide) ?_
      refine k_iald X w 10 0 rfl rfl 3 (kj := 3) rfl (by decide) (by decide) rfl (v := z 3) (gz_o _ 3 (by decide)) dL_isSo_166 ?_
      refine lv_bipush (v := 100) hx hb dL_isSo_167 (by decide) ?_
      refine lv_iadd hx hb dL_isSo_169 ?_
      refine lv_icmp_ne (tgt := 305) hx hb dL_isSo_170 (by decide) (fun c6 => absurd (rfl) c6) (fun c6 => ?_)
      refine lv_aload_n hx hb dL_isSo_173 rfl (lv_at hl 1 rfl) ?_
      refine lv_iconst (v := 4) hx hb dL_isSo_174 (by decide) ?_
      refine k_ciR (k_runV X w (met_X5_count l D cI cJ cO xx ak b tr hf sv an w1n wan pan ran san z rr y len k6 4 hz6 hn hn4 (by decide) H.size) gL_isSo_X5_count rfl rfl rfl 1 hdX5_count ⟨Nat.le_of_ble_eq_true rfl, Nat.le_of_ble_eq_true rfl⟩ [0, 1, 2, 3, 4, 5, 6, 7] rfl rfl 0 5 rfl rfl rfl rfl hl.1 rfl (Nat.le_of_ble_eq_true rfl) dL_isSo_175 ⟨Nat.le_of_ble_eq_true rfl, Nat.le_of_ble_eq_true rfl⟩) w hA [0, 1, 2, 3, 4, 5, 6, 7] rfl (fun H locs w => ?_)
      refine lv_aload_n hx hb dL_isSo_178 rfl (lv_at hl 2 rfl) ?_
      refine lv_iconst (v := 4) hx hb dL_isSo_179 (by decide) ?_
      refine k_iald X w 10 0 rfl rfl 4 (kj := 4) rfl (by decide) (by decide) rfl (v := z 4) (gz_o _ 4 (by decide)) dL_isSo_180 ?_
      refine lv_icmp_ne (tgt := 305) hx hb dL_isSo_181 (by decide) (fun c7 => absurd (rfl) c7) (fun c7 => ?_)
      refine lv_aload_n hx hb dL_isSo_184 rfl (lv_at hl 1 rfl) ?_
      refine lv_iconst (v := 5) hx hb dL_isSo_185 (by decide) ?_
      refine k_ciR (k_runV X w (met_X5_count l D cI cJ cO xx ak b tr hf sv an w1n wan pan ran san z rr y len k6 5 hz6 hn hn4 (by decide) H.size) gL_isSo_X5_count rfl rfl rfl 1 hdX5_count ⟨Nat.le_of_ble_eq_true rfl, Nat.le_of_ble_eq_true rfl⟩ [0, 1, 2, 3, 4, 5, 6, 7] rfl rfl 0 5 rfl rfl rfl rfl hl.1 rfl (Nat.le_of_ble_eq_true rfl) dL_isSo_186 ⟨Nat.le_of_ble_eq_true rfl, Nat.le_of_ble_eq_true rfl⟩) w hA [0, 1, 2, 3, 4, 5, 6, 7] rfl (fun H locs w => ?_)
      refine lv_aload_n hx hb dL_isSo_189 rfl (lv_at hl 2 rfl) ?_
      refine lv_iconst (v := 5) hx hb dL_isSo_190 (by decide) ?_
      refine k_iald X w 10 0 rfl rfl 5 (kj := 5) rfl (by decide) (by decide) rfl (v := z 5) (gz_o _ 5 (by decide)) dL_isSo_191 ?_
      refine lv_icmp_ne (tgt := 305) hx hb dL_isSo_192 (by decide) (fun c8 => absurd (rfl) c8) (fun c8 => ?_)
      refine lv_aload_n hx hb dL_isSo_195 rfl (lv_at hl 1 rfl) ?_
      refine lv_bipush (v := 6) hx hb dL_isSo_196 (by decide) ?_
      refine k_ciR (k_runV X w (met_X5_count l D cI cJ cO xx ak b tr hf sv an w1n wan pan ran san z rr y len k6 6 hz6 hn hn4 (by decide) H.size) gL_isSo_X5_count rfl rfl rfl 1 hdX5_count ⟨Nat.le_of_ble_eq_true rfl, Nat.le_of_ble_eq_true rfl⟩ [0, 1, 2, 3, 4, 5, 6, 7] rfl rfl 0 5 rfl rfl rfl rfl hl.1 rfl (Nat.le_of_ble_eq_true rfl) dL_isSo_198 ⟨Nat.le_of_ble_eq_true rfl, Nat.le_of_ble_eq_true rfl⟩) w hA [0, 1, 2, 3, 4, 5, 6, 7] rfl (fun H locs w => ?_)
      refine lv_aload_n hx hb dL_isSo_201 rfl (lv_at hl 2 rfl) ?_
      refine lv_bipush (v := 6) hx hb dL_isSo_202 (by decide) ?_
      refine k_iald X w 10 0 rfl rfl 6 (kj := 6) rfl (by decide) (by decide) rfl (v := nI k6) ((gz_o _ 6 (by decide)).trans hz6) dL_isSo_204 ?_
      refine lv_icmp_ne (tgt := 305) hx hb dL_isSo_205 (by decide) (fun c9 => absurd (hz6) c9) (fun c9 => ?_)
      refine lv_aload_n hx hb dL_isSo_208 rfl (lv_at hl 1 rfl) ?_
      refine lv_bipush (v := 7) hx hb dL_isSo_209 (by decide) ?_
      refine k_ciR (k_runV X w (met_X5_count l D cI cJ cO xx ak b tr hf sv an w1n wan pan ran san z rr y len k6 7 hz6 hn hn4 (by decide) H.size) gL_isSo_X5_count rfl rfl rfl 1 hdX5_count ⟨Nat.le_of_ble_eq_true rfl, Nat.le_of_ble_eq_true rfl⟩ [0, 1, 2, 3, 4, 5, 6, 7] rfl rfl 0 5 rfl rfl rfl rfl hl.1 rfl (Nat.le_of_ble_eq_true rfl) dL_isSo_211 ⟨Nat.le_of_ble_eq_true rfl, Nat.le_of_ble_eq_true rfl⟩) w hA [0, 1, 2, 3, 4, 5, 6, 7] rfl (fun H locs w => ?_)
      refine lv_aload_n hx hb dL_isSo_214 rfl (lv_at hl 2 rfl) ?_
      refine lv_aload_n hx hb dL_isSo_215 rfl (lv_at hl 2 rfl) ?_
      refine lv_bipush (v := 6) hx hb dL_isSo_216 (by decide) ?_
      refine k_iald X w 10 0 rfl rfl 6 (kj := 6) rfl (by decide) (by decide) rfl (v := nI k6) ((gz_o _ 6 (by decide)).trans hz6) dL_isSo_218 ?_
      refine k_ciR (k_runS X w (met_L_goes l D cI cJ cO ga z (nI k6)  H.size) gL_isSo_L_goes rfl rfl rfl 2 hdL_goes ⟨Nat.le_of_ble_eq_true rfl, Nat.le_of_ble_eq_true rfl⟩ [10] rfl rfl rfl hl.1 rfl (Nat.le_of_ble_eq_true rfl) dL_isSo_219 ⟨Nat.le_of_ble_eq_true rfl, Nat.le_of_ble_eq_true rfl⟩) w hA [10] rfl (fun H locs w => ?_)
      have K : ∀ y11 : Int32, y11 = bI (goes z (nI k6)) → W p l e ({ frames := 8, cells := 1, slots := 22, locals := 184 }) s m [.ref xx, .ref ga, .ref aa, .ref ba, .ref da].toArray below meth c H locs 0 0 Q (F0 m 230 ls [.int y11, .int (cnum z len k6 (y 1) 7)]) := by
        intro y11 ey11
        subst ey11
        refine lv_icmp_ne (tgt := 305) hx hb dL_isSo_230 (by decide) (fun c12 => absurd (rfl) c12) (fun c12 => ?_)
        refine lv_aload_n hx hb dL_isSo_233 rfl (lv_at hl 1 rfl) ?_
        refine lv_bipush (v := 8) hx hb dL_isSo_234 (by decide) ?_
        refine k_ciR (k_runV X w (met_X5_count l D cI cJ cO xx ak b tr hf sv an w1n wan pan ran san z rr y len k6 8 hz6 hn hn4 (by decide) H.size) gL_isSo_X5_count rfl rfl rfl 1 hdX5_count ⟨Nat.le_of_ble_eq_true rfl, Nat.le_of_ble_eq_true rfl⟩ [0, 1, 2, 3, 4, 5, 6, 7] rfl rfl 0 5 rfl rfl rfl rfl hl.1 rfl (Nat.le_of_ble_eq_true rfl) dL_isSo_236 ⟨Nat.le_of_ble_eq_true rfl, Nat.le_of_ble_eq_true rfl⟩) w hA [0, 1, 2, 3, 4, 5, 6, 7] rfl (fun H locs w => ?_)
        refine lv_aload_n hx hb dL_isSo_239 rfl (lv_at hl 2 rfl) ?_
        refine lv_bipush (v := 7) hx hb dL_isSo_240 (by decide) ?_
        refine k_iald X w 10 0 rfl rfl 7 (kj := 7) rfl (by decide) (by decide) rfl (v := z 7) (gz_o _ 7 (by decide)) dL_isSo_242 ?_
        refine lv_ldc (v := 1000000) hx hb hown (hts _ (List.mem_of_getElem? (i := 1) rfl)) dL_isSo_243 ?_
        refine lv_iadd hx hb dL_isSo_245 ?_
        refine lv_icmp_ne (tgt := 305) hx hb dL_isSo_246 (by decide) (fun c13 => absurd (rfl) c13) (fun c13 => ?_)
        refine lv_aload_n hx hb dL_isSo_249 rfl (lv_at hl 1 rfl) ?_
        refine lv_bipush (v := 9) hx hb dL_isSo_250 (by decide) ?_
        refine k_ciR (k_runV X w (met_X5_count l D cI cJ cO xx ak b tr hf sv an w1n wan pan ran san z rr y len k6 9 hz6 hn hn4 (by decide) H.size) gL_isSo_X5_count rfl rfl rfl 1 hdX5_count ⟨Nat.le_of_ble_eq_true rfl, Nat.le_of_ble_eq_true rfl⟩ [0, 1, 2, 3, 4, 5, 6, 7] rfl rfl 0 5 rfl rfl rfl rfl hl.1 rfl (Nat.le_of_ble_eq_true rfl) dL_isSo_252 ⟨Nat.le_of_ble_eq_true rfl, Nat.le_of_ble_eq_true rfl⟩) w hA [0, 1, 2, 3, 4, 5, 6, 7] rfl (fun H locs w => ?_)
        refine lv_aload_n hx hb dL_isSo_255 rfl (lv_at hl 2 rfl) ?_
        refine lv_bipush (v := 8) hx hb dL_isSo_256 (by decide) ?_
        refine k_iald X w 10 0 rfl rfl 8 (kj := 8) rfl (by decide) (by decide) rfl (v := z 8) (gz_o _ 8 (by decide)) dL_isSo_258 ?_
        refine lv_icmp_ne (tgt := 305) hx hb dL_isSo_259 (by decide) (fun c14 => absurd (rfl) c14) (fun c14 => ?_)
        refine lv_aload_n hx hb dL_isSo_262 rfl (lv_at hl 1 rfl) ?_
        refine lv_bipush (v := 10) hx hb dL_isSo_263 (by decide) ?_
        refine k_ciR (k_runV X w (met_X5_count l D cI cJ cO xx ak b tr hf sv an w1n wan pan ran san z rr y len k6 10 hz6 hn hn4 (by decide) H.size) gL_isSo_X5_count rfl rfl rfl 1 hdX5_count ⟨Nat.le_of_ble_eq_true rfl, Nat.le_of_ble_eq_true rfl⟩ [0, 1, 2, 3, 4, 5, 6, 7] rfl rfl 0 5 rfl rfl rfl rfl hl.1 rfl (Nat.le_of_ble_eq_true rfl) dL_isSo_265 ⟨Nat.le_of_ble_eq_true rfl, Nat.le_of_ble_eq_true rfl⟩) w hA [0, 1, 2, 3, 4, 5, 6, 7] rfl (fun H locs w => ?_)
        refine lv_aload_n hx hb dL_isSo_268 rfl (lv_at hl 2 rfl) ?_
        refine lv_bipush (v := 10) hx hb dL_isSo_269 (by decide) ?_
        refine k_iald X w 10 0 rfl rfl 10 (kj := 10) rfl (by decide) (by decide) rfl (v := nI len) ((gz_o _ 10 (by decide)).trans hn) dL_isSo_271 ?_
        refine lv_icmp_ne (tgt := 305) hx hb dL_isSo_272 (by decide) (fun c15 => absurd (hn) c15) (fun c15 => ?_)
        refine lv_aload_n hx hb dL_isSo_275 rfl (lv_at hl 1 rfl) ?_
        refine lv_bipush (v := 11) hx hb dL_isSo_276 (by decide) ?_
        refine k_ciR (k_runV X w (met_X5_count l D cI cJ cO xx ak b tr hf sv an w1n wan pan ran san z rr y len k6 11 hz6 hn hn4 (by decide) H.size) gL_isSo_X5_count rfl rfl rfl 1 hdX5_count ⟨Nat.le_of_ble_eq_true rfl, Nat.le_of_ble_eq_true rfl⟩ [0, 1, 2, 3, 4, 5, 6, 7] rfl rfl 0 5 rfl rfl rfl rfl hl.1 rfl (Nat.le_of_ble_eq_true rfl) dL_isSo_278 ⟨Nat.le_of_ble_eq_true rfl, Nat.le_of_ble_eq_true rfl⟩) w hA [0, 1, 2, 3, 4, 5, 6, 7] rfl (fun H locs w => ?_)
        refine lv_aload_n hx hb dL_isSo_281 rfl (lv_at hl 2 rfl) ?_
        refine lv_bipush (v := 11) hx hb dL_isSo_282 (by decide) ?_
        refine k_iald X w 10 0 rfl rfl 11 (kj := 11) rfl (by decide) (by decide) rfl (v := z 11) (gz_o _ 11 (by decide)) dL_isSo_284 ?_
        refine lv_icmp_ne (tgt := 305) hx hb dL_isSo_285 (by decide) (fun c16 => absurd (rfl) c16) (fun c16 => ?_)
        refine lv_aload_n hx hb dL_isSo_288 rfl (lv_at hl 1 rfl) ?_
        refine lv_bipush (v := 15) hx hb dL_isSo_289 (by decide) ?_
        refine k_ciR (k_runV X w (met_X5_count l D cI cJ cO xx ak b tr hf sv an w1n wan pan ran san z rr y len k6 15 hz6 hn hn4 (by decide) H.size) gL_isSo_X5_count rfl rfl rfl 1 hdX5_count ⟨Nat.le_of_ble_eq_true rfl, Nat.le_of_ble_eq_true rfl⟩ [0, 1, 2, 3, 4, 5, 6, 7] rfl rfl 0 5 rfl rfl rfl rfl hl.1 rfl (Nat.le_of_ble_eq_true rfl) dL_isSo_291 ⟨Nat.le_of_ble_eq_true rfl, Nat.le_of_ble_eq_true rfl⟩) w hA [0, 1, 2, 3, 4, 5, 6, 7] rfl (fun H locs w => ?_)
        refine lv_aload_n hx hb dL_isSo_294 rfl (lv_at hl 2 rfl) ?_
        refine lv_bipush (v := 9) hx hb dL_isSo_295 (by decide) ?_
        refine k_iald X w 10 0 rfl rfl 9 (kj := 9) rfl (by decide) (by decide) rfl (v := z 9) (gz_o _ 9 (by decide)) dL_isSo_297 ?_
        refine lv_icmp_ne (tgt := 305) hx hb dL_isSo_298 (by decide) (fun c17 => absurd (rfl) c17) (fun c17 => ?_)
        refine lv_iconst (v := 1) hx hb dL_isSo_301 (by decide) ?_
        refine lv_goto (tgt := 306) hx hb dL_isSo_302 (by decide) ?_
        refine lv_istore (lv' := [(5, .int 1), (0, .ref xx), (1, .ref ga), (2, .ref aa), (3, .ref ba), (4, .ref da)]) hx hb dL_isSo_306 hl (by decide) rfl (fun ls hl => ?_)
        refine lv_iconst (v := 0) hx hb dL_isSo_308 (by decide) ?_
        refine lv_istore (lv' := [(6, .int 0), (5, .int 1), (0, .ref xx), (1, .ref ga), (2, .ref aa), (3, .ref ba), (4, .ref da)]) hx hb dL_isSo_309 hl (by decide) rfl (fun ls hl => ?_)
        have lp311 : ∀ (n2 : Nat) (j : Nat), j + n2 = 4 → ∀ (H : Heap) (locs : List Loc) (ls : Array Slot), wd D A s.heap H locs ([oX xx an ak sv b tr hf, oS an w1n pan san z, aI cI san 4 12 z, oW w1n wan z, aI cI wan 6 19 z, oP pan ran z, aI cI ran 200 25 z, oV sv rr y, oW tr twa zt, aI cI twa 6 19 zt, aI cI ga 22 0 (gz z), aI cI aa 40 0 (pA z), aI cI ba 40 0 (pB z), aI cI da 40 0 (pD z)]) → lv_has ls 7 [(6, .int (nI j)), (5, .int 1), (0, .ref xx), (1, .ref ga), (2, .ref aa), (3, .ref ba), (4, .ref da)] → W p l e ({ frames := 8, cells := 1, slots := 22, locals := 184 }) s m [.ref xx, .ref ga, .ref aa, .ref ba, .ref da].toArray below meth c H locs 0 0 Q (F0 m 311 ls []) := by
          intro n2
          induction n2 with
          | zero =>
            intro j hj4 H locs ls w hl
            refine lv_iload hx hb dL_isSo_311 (lv_at hl 0 rfl) ?_
            refine lv_iconst (v := 4) hx hb dL_isSo_313 (by decide) ?_
            refine lv_icmp_ge (tgt := 354) hx hb dL_isSo_314 (by decide) (fun c18 => ?_) (fun c18 => absurd (nI_le (a := 4) (b := j) (by omega) (by omega)) c18)
            refine lv_iload hx hb dL_isSo_354 (lv_at hl 1 rfl) ?_
            refine lv_if_eq (tgt := 401) hx hb dL_isSo_356 (by decide) (fun c19 => absurd c19 (by decide)) (fun c19 => ?_)
            refine lv_aload_n hx hb dL_isSo_359 rfl (lv_at hl 2 rfl) ?_
            refine lv_aload_n hx hb dL_isSo_360 rfl (lv_at hl 3 rfl) ?_
            refine lv_aload_n hx hb dL_isSo_361 rfl (lv_at hl 4 rfl) ?_
            refine lv_aload_n hx hb dL_isSo_362 rfl (lv_at hl 5 rfl) ?_
            refine k_cim (wr := [aI cI da 40 0 (pD z)]) (ws2 := [oX xx an ak sv b tr hf, oS an w1n pan san z, aI cI san 4 12 z, oW w1n wan z, aI cI wan 6 19 z, oP pan ran z, aI cI ran 200 25 z, oV sv rr y, oW tr twa (utrs z zt 6), aI cI twa 6 19 (utrs z zt 6), aI cI ga 22 0 (gz z), aI cI aa 40 0 (pA z), aI cI ba 40 0 (pB z), aI cI da 40 0 (pD z)]) (k_runSM X w ox hA (met_L_arePoses l D cI cJ cO o xx ak b tr hf sv an w1n wan pan ran san z twa zt rr y ga aa ba len k6 M hgd hM hQ hn hn4 hz6 H.size) gL_isSo_L_arePoses rfl rfl rfl 4 hdL_arePoses ⟨Nat.le_of_ble_eq_true rfl, Nat.le_of_ble_eq_true rfl⟩ [0, 1, 2, 3, 4, 5, 6, 7, 8, 9, 10, 11, 12] rfl rfl rfl hl.1 rfl (Nat.le_of_ble_eq_true rfl) dL_isSo_363 ⟨Nat.le_of_ble_eq_true rfl, Nat.le_of_ble_eq_true rfl⟩) w hA [0, 1, 2, 3, 4, 5, 6, 7, 8, 9, 10, 11, 12] [13] rfl rfl rfl (by decide) [1, 2, 3, 4, 5, 6, 7, 8, 9, 10, 11, 12, 13, 0] rfl rfl (fun H locs w => ?_)
            show W p l e _ s m _ below meth c H locs 1 22 Q _
            refine lv_if_eq (tgt := 401) hx hb dL_isSo_366 (by decide) (fun c20 => absurd c20 (by decide)) (fun c20 => ?_)
            refine lv_aload_n hx hb dL_isSo_369 rfl (lv_at hl 2 rfl) ?_
            refine k_cdR (k_runV X w (met_X5_going l D cI cJ cO xx ak b tr hf sv an w1n wan pan ran san z (good_nn hgd hM) H.size) gL_isSo_X5_going rfl rfl rfl 0 hdX5_going ⟨Nat.le_of_ble_eq_true rfl, Nat.le_of_ble_eq_true rfl⟩ [0, 1, 2, 3, 4, 5, 6] rfl rfl 0 5 rfl rfl rfl rfl hl.1 rfl (Nat.le_of_ble_eq_true rfl) dL_isSo_370 ⟨Nat.le_of_ble_eq_true rfl, Nat.le_of_ble_eq_true rfl⟩) w hA [0, 1, 2, 3, 4, 5, 6] rfl (fun H locs w => ?_)
            refine lv_aload_n hx hb dL_isSo_373 rfl (lv_at hl 3 rfl) ?_
            refine lv_iconst (v := 0) hx hb dL_isSo_374 (by decide) ?_
            refine k_iald X w 10 0 rfl rfl 0 (kj := 0) rfl (by decide) (by decide) rfl (v := z 0) (gz_o _ 0 (by decide)) dL_isSo_375 ?_
            refine lv_if_ne (tgt := 383) hx hb dL_isSo_376 (by decide) (fun c21 => ?_) (fun c21 => ?_)
            · refine lv_aload_n hx hb dL_isSo_383 rfl (lv_at hl 3 rfl) ?_
              refine lv_bipush (v := 9) hx hb dL_isSo_384 (by decide) ?_
              refine k_iald X w 10 0 rfl rfl 9 (kj := 9) rfl (by decide) (by decide) rfl (v := z 9) (gz_o _ 9 (by decide)) dL_isSo_386 ?_
              refine lv_i2d hx hb dL_isSo_387 ?_
              refine lv_aload_n hx hb dL_isSo_388 rfl (lv_at hl 3 rfl) ?_
              refine lv_iconst (v := 0) hx hb dL_isSo_389 (by decide) ?_
              refine k_iald X w 10 0 rfl rfl 0 (kj := 0) rfl (by decide) (by decide) rfl (v := z 0) (gz_o _ 0 (by decide)) dL_isSo_390 ?_
              refine lv_i2d hx hb dL_isSo_391 ?_
              refine lv_ddiv hx hb dL_isSo_392 (good_nn hgd hM (share_nz (good_0 hgd) c21)) ?_
              refine lv_dcmp hx hb dL_isSo_393 ?_
              refine lv_if_ne (tgt := 401) hx hb dL_isSo_394 (by decide) (fun c22 => absurd (dd_div hgd hM c21) c22) (fun c22 => ?_)
              refine lv_iconst (v := 1) hx hb dL_isSo_397 (by decide) ?_
              refine lv_goto (tgt := 402) hx hb dL_isSo_398 (by decide) ?_
              exact fin _ _ _ _ _ _ _ w rfl dL_isSo_402 (Nat.le_of_ble_eq_true rfl) (Nat.le_of_ble_eq_true rfl)
            · refine lv_dconst1 hx hb dL_isSo_379 ?_
              refine lv_goto (tgt := 393) hx hb dL_isSo_380 (by decide) ?_
              refine lv_dcmp hx hb dL_isSo_393 ?_
              refine lv_if_ne (tgt := 401) hx hb dL_isSo_394 (by decide) (fun c23 => absurd (dd_one hgd hM c21) c23) (fun c23 => ?_)
              refine lv_iconst (v := 1) hx hb dL_isSo_397 (by decide) ?_
              refine lv_goto (tgt := 402) hx hb dL_isSo_398 (by decide) ?_
              exact fin _ _ _ _ _ _ _ w rfl dL_isSo_402 (Nat.le_of_ble_eq_true rfl) (Nat.le_of_ble_eq_true rfl)
          | succ n2 ih2 =>
            intro j hj4 H locs ls w hl
            refine lv_iload hx hb dL_isSo_311 (lv_at hl 0 rfl) ?_
            refine lv_iconst (v := 4) hx hb dL_isSo_313 (by decide) ?_
            refine lv_icmp_ge (tgt := 354) hx hb dL_isSo_314 (by decide) (fun c24 => absurd c24 (nI_ge (a := j) (b := 4) (by omega) (by decide))) (fun c24 => ?_)
            refine lv_iload hx hb dL_isSo_317 (lv_at hl 1 rfl) ?_
            refine lv_if_eq (tgt := 345) hx hb dL_isSo_319 (by decide) (fun c25 => absurd c25 (by decide)) (fun c25 => ?_)
            refine lv_aload_n hx hb dL_isSo_322 rfl (lv_at hl 2 rfl) ?_
            refine lv_bipush (v := 16) hx hb dL_isSo_323 (by decide) ?_
            refine lv_iload hx hb dL_isSo_325 (lv_at hl 0 rfl) ?_
            refine lv_iadd hx hb dL_isSo_327 ?_
            rw [show 16 + nI j = nI (16 + j) from nI_addp rfl rfl]
            refine k_ciR (k_runV X w (met_X5_count l D cI cJ cO xx ak b tr hf sv an w1n wan pan ran san z rr y len k6 (16 + j) hz6 hn hn4 (by omega) H.size) gL_isSo_X5_count rfl rfl rfl 1 hdX5_count ⟨Nat.le_of_ble_eq_true rfl, Nat.le_of_ble_eq_true rfl⟩ [0, 1, 2, 3, 4, 5, 6, 7] rfl rfl 0 5 rfl rfl rfl rfl hl.1 rfl (Nat.le_of_ble_eq_true rfl) dL_isSo_328 ⟨Nat.le_of_ble_eq_true rfl, Nat.le_of_ble_eq_true rfl⟩) w hA [0, 1, 2, 3, 4, 5, 6, 7] rfl (fun H locs w => ?_)
            refine lv_aload_n hx hb dL_isSo_331 rfl (lv_at hl 3 rfl) ?_
            refine lv_bipush (v := 12) hx hb dL_isSo_332 (by decide) ?_
            refine lv_iload hx hb dL_isSo_334 (lv_at hl 0 rfl) ?_
            refine lv_iadd hx hb dL_isSo_336 ?_
            refine k_iald X w 10 0 rfl rfl (12 + j) (kj := 12 + j) (Nat.zero_add _) (by omega) (by decide) (nI_addp rfl rfl) (v := gz z (12 + j)) rfl dL_isSo_337 ?_
            refine lv_icmp_ne (tgt := 345) hx hb dL_isSo_338 (by decide) (fun c26 => absurd (cn_16 (by omega)) c26) (fun c26 => ?_)
            refine lv_iconst (v := 1) hx hb dL_isSo_341 (by decide) ?_
            refine lv_goto (tgt := 346) hx hb dL_isSo_342 (by decide) ?_
            refine lv_istore (lv' := [(5, .int 1), (6, .int (nI j)), (0, .ref xx), (1, .ref ga), (2, .ref aa), (3, .ref ba), (4, .ref da)]) hx hb dL_isSo_346 hl (by decide) rfl (fun ls hl => ?_)
            refine lv_iinc (v := nI (j + 1)) (lv' := [(6, .int (nI (j + 1))), (5, .int 1), (0, .ref xx), (1, .ref ga), (2, .ref aa), (3, .ref ba), (4, .ref da)]) hx hb dL_isSo_348 hl (k := 1) rfl (nI_1 _) (by decide) rfl (fun ls hl => ?_)
            refine lv_goto (tgt := 311) hx hb dL_isSo_351 (by decide) ?_
            exact ih2 (j + 1) (by omega) _ _ _ w (lv_sub hl [0, 1, 2, 3, 4, 5, 6] rfl)
        exact lp311 4 0 (Nat.zero_add _) _ _ _ w (lv_sub hl [0, 1, 2, 3, 4, 5, 6] rfl)
      refine lv_if_eq (tgt := 229) hx hb dL_isSo_222 (by decide) (fun c10 => ?_) (fun c10 => ?_)
      · have c10 := bI_f c10
        refine lv_iconst (v := 0) hx hb dL_isSo_229 (by decide) ?_
        exact K _ (by rw [c10]; rfl)
      · have c10 := bI_t c10
        refine lv_iconst (v := 1) hx hb dL_isSo_225 (by decide) ?_
        refine lv_goto (tgt := 230) hx hb dL_isSo_226 (by decide) ?_
        exact K _ (by rw [c10]; rfl)
    | succ n ih =>
      intro i hi H locs ls w hl
      have hil : i < len := by omega
      refine lv_iload hx hb dL_isSo_3 (lv_at hl 0 rfl) ?_
      refine lv_aload_n hx hb dL_isSo_5 rfl (lv_at hl 2 rfl) ?_
      refine lv_bipush (v := 10) hx hb dL_isSo_6 (by decide) ?_
      refine k_iald X w 10 0 rfl rfl 10 (kj := 10) rfl (by decide) (by decide) rfl (v := nI len) ((gz_o _ 10 (by decide)).trans hn) dL_isSo_8 ?_
      refine lv_icmp_ge (tgt := 110) hx hb dL_isSo_9 (by decide) (fun c18 => absurd c18 (nI_ge (by omega) (by omega))) (fun c18 => ?_)
      refine lv_aload_n hx hb dL_isSo_12 rfl (lv_at hl 1 rfl) ?_
      refine lv_iload hx hb dL_isSo_13 (lv_at hl 0 rfl) ?_
      refine lv_iconst (v := 0) hx hb dL_isSo_15 (by decide) ?_
      refine k_ciR (k_runV X w (met_X5_reading l D cI cJ cO xx ak b tr hf sv an w1n wan pan ran san z len i 0 (by omega) hn hn4 (by decide) H.size) gL_isSo_X5_reading rfl rfl rfl 2 hdX5_reading ⟨Nat.le_of_ble_eq_true rfl, Nat.le_of_ble_eq_true rfl⟩ [0, 1, 2, 3, 4, 5, 6] rfl rfl 0 5 rfl rfl rfl rfl hl.1 rfl (Nat.le_of_ble_eq_true rfl) dL_isSo_16 ⟨Nat.le_of_ble_eq_true rfl, Nat.le_of_ble_eq_true rfl⟩) w hA [0, 1, 2, 3, 4, 5, 6] rfl (fun H locs w => ?_)
      refine lv_aload_n hx hb dL_isSo_19 rfl (lv_at hl 3 rfl) ?_
      refine lv_iload hx hb dL_isSo_20 (lv_at hl 0 rfl) ?_
      refine k_iald X w 11 0 rfl rfl i (kj := i) (Nat.zero_add _) (by omega) (by decide) rfl (v := pA z i) rfl dL_isSo_22 ?_
      refine lv_bipush (v := 100) hx hb dL_isSo_23 (by decide) ?_
      refine lv_idiv hx hb dL_isSo_25 (by decide) ?_
      refine lv_icmp_ne (tgt := 102) hx hb dL_isSo_26 (by decide) (fun c19 => absurd (rn_0 hgd hM hn hn4 hil) c19) (fun c19 => ?_)
      refine lv_aload_n hx hb dL_isSo_29 rfl (lv_at hl 1 rfl) ?_
      refine lv_iload hx hb dL_isSo_30 (lv_at hl 0 rfl) ?_
      refine lv_iconst (v := 1) hx hb dL_isSo_32 (by decide) ?_
      refine k_ciR (k_runV X w (met_X5_reading l D cI cJ cO xx ak b tr hf sv an w1n wan pan ran san z len i 1 (by omega) hn hn4 (by decide) H.size) gL_isSo_X5_reading rfl rfl rfl 2 hdX5_reading ⟨Nat.le_of_ble_eq_true rfl, Nat.le_of_ble_eq_true rfl⟩ [0, 1, 2, 3, 4, 5, 6] rfl rfl 0 5 rfl rfl rfl rfl hl.1 rfl (Nat.le_of_ble_eq_true rfl) dL_isSo_33 ⟨Nat.le_of_ble_eq_true rfl, Nat.le_of_ble_eq_true rfl⟩) w hA [0, 1, 2, 3, 4, 5, 6] rfl (fun H locs w => ?_)
      refine lv_aload_n hx hb dL_isSo_36 rfl (lv_at hl 3 rfl) ?_
      refine lv_iload hx hb dL_isSo_37 (lv_at hl 0 rfl) ?_
      refine k_iald X w 11 0 rfl rfl i (kj := i) (Nat.zero_add _) (by omega) (by decide) rfl (v := pA z i) rfl dL_isSo_39 ?_
      refine lv_bipush (v := 100) hx hb dL_isSo_40 (by decide) ?_
      refine lv_irem hx hb dL_isSo_42 (by decide) ?_
      refine lv_icmp_ne (tgt := 102) hx hb dL_isSo_43 (by decide) (fun c20 => absurd (rn_1 hgd hM hn hn4 hil) c20) (fun c20 => ?_)
      refine lv_aload_n hx hb dL_isSo_46 rfl (lv_at hl 1 rfl) ?_
      refine lv_iload hx hb dL_isSo_47 (lv_at hl 0 rfl) ?_
      refine lv_iconst (v := 2) hx hb dL_isSo_49 (by decide) ?_
      refine k_ciR (k_runV X w (met_X5_reading l D cI cJ cO xx ak b tr hf sv an w1n wan pan ran san z len i 2 (by omega) hn hn4 (by decide) H.size) gL_isSo_X5_reading rfl rfl rfl 2 hdX5_reading ⟨Nat.le_of_ble_eq_true rfl, Nat.le_of_ble_eq_true rfl⟩ [0, 1, 2, 3, 4, 5, 6] rfl rfl 0 5 rfl rfl rfl rfl hl.1 rfl (Nat.le_of_ble_eq_true rfl) dL_isSo_50 ⟨Nat.le_of_ble_eq_true rfl, Nat.le_of_ble_eq_true rfl⟩) w hA [0, 1, 2, 3, 4, 5, 6] rfl (fun H locs w => ?_)
      refine lv_aload_n hx hb dL_isSo_53 rfl (lv_at hl 4 rfl) ?_
      refine lv_iload hx hb dL_isSo_54 (lv_at hl 0 rfl) ?_
      refine k_iald X w 12 0 rfl rfl i (kj := i) (Nat.zero_add _) (by omega) (by decide) rfl (v := pB z i) rfl dL_isSo_56 ?_
      refine lv_sipush (v := 10000) hx hb dL_isSo_57 (by decide) ?_
      refine lv_iadd hx hb dL_isSo_60 ?_
      refine lv_icmp_ne (tgt := 102) hx hb dL_isSo_61 (by decide) (fun c21 => absurd (rn_2 hil) c21) (fun c21 => ?_)
      refine lv_aload_n hx hb dL_isSo_64 rfl (lv_at hl 1 rfl) ?_
      refine lv_iload hx hb dL_isSo_65 (lv_at hl 0 rfl) ?_
      refine lv_iconst (v := 3) hx hb dL_isSo_67 (by decide) ?_
      refine k_ciR (k_runV X w (met_X5_reading l D cI cJ cO xx ak b tr hf sv an w1n wan pan ran san z len i 3 (by omega) hn hn4 (by decide) H.size) gL_isSo_X5_reading rfl rfl rfl 2 hdX5_reading ⟨Nat.le_of_ble_eq_true rfl, Nat.le_of_ble_eq_true rfl⟩ [0, 1, 2, 3, 4, 5, 6] rfl rfl 0 5 rfl rfl rfl rfl hl.1 rfl (Nat.le_of_ble_eq_true rfl) dL_isSo_68 ⟨Nat.le_of_ble_eq_true rfl, Nat.le_of_ble_eq_true rfl⟩) w hA [0, 1, 2, 3, 4, 5, 6] rfl (fun H locs w => ?_)
      refine lv_aload hx hb dL_isSo_71 (lv_at hl 5 rfl) ?_
      refine lv_iload hx hb dL_isSo_73 (lv_at hl 0 rfl) ?_
      refine k_iald X w 13 0 rfl rfl i (kj := i) (Nat.zero_add _) (by omega) (by decide) rfl (v := pD z i) rfl dL_isSo_75 ?_
      refine lv_sipush (v := 1000) hx hb dL_isSo_76 (by decide) ?_
      refine lv_idiv hx hb dL_isSo_79 (by decide) ?_
      refine lv_icmp_ne (tgt := 102) hx hb dL_isSo_80 (by decide) (fun c22 => absurd (rn_3 hQ hn hn4 hil) c22) (fun c22 => ?_)
      refine lv_aload_n hx hb dL_isSo_83 rfl (lv_at hl 1 rfl) ?_
      refine lv_iload hx hb dL_isSo_84 (lv_at hl 0 rfl) ?_
      refine lv_iconst (v := 4) hx hb dL_isSo_86 (by decide) ?_
      refine k_ciR (k_runV X w (met_X5_reading l D cI cJ cO xx ak b tr hf sv an w1n wan pan ran san z len i 4 (by omega) hn hn4 (by decide) H.size) gL_isSo_X5_reading rfl rfl rfl 2 hdX5_reading ⟨Nat.le_of_ble_eq_true rfl, Nat.le_of_ble_eq_true rfl⟩ [0, 1, 2, 3, 4, 5, 6] rfl rfl 0 5 rfl rfl rfl rfl hl.1 rfl (Nat.le_of_ble_eq_true rfl) dL_isSo_87 ⟨Nat.le_of_ble_eq_true rfl, Nat.le_of_ble_eq_true rfl⟩) w hA [0, 1, 2, 3, 4, 5, 6] rfl (fun H locs w => ?_)
      refine lv_aload hx hb dL_isSo_90 (lv_at hl 5 rfl) ?_
      refine lv_iload hx hb dL_isSo_92 (lv_at hl 0 rfl) ?_
      refine k_iald X w 13 0 rfl rfl i (kj := i) (Nat.zero_add _) (by omega) (by decide) rfl (v := pD z i) rfl dL_isSo_94 ?_
      refine lv_sipush (v := 1000) hx hb dL_isSo_95 (by decide) ?_
      refine lv_irem hx hb dL_isSo_98 (by decide) ?_
      refine lv_icmp_eq (tgt := 104) hx hb dL_isSo_99 (by decide) (fun c23 => ?_) (fun c23 => absurd (rn_4 hQ hn hn4 hil) c23)
      refine lv_iinc (v := nI (i + 1)) (lv' := [(5, .int (nI (i + 1))), (0, .ref xx), (1, .ref ga), (2, .ref aa), (3, .ref ba), (4, .ref da)]) hx hb dL_isSo_104 hl (k := 0) rfl (nI_1 _) (by decide) rfl (fun ls hl => ?_)
      refine lv_goto (tgt := 3) hx hb dL_isSo_107 (by decide) ?_
      exact ih (i + 1) (by omega) _ _ _ w (lv_sub hl [0, 1, 2, 3, 4, 5] rfl)
  exact lp3 len 0 (Nat.zero_add _) _ _ _ w (lv_sub hl [0, 1, 2, 3, 4, 5] rfl)
