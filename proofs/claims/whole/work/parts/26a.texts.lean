noncomputable abbrev cw_1009 : Cond := Cond.methodLink RL 59 yX2_wideText
noncomputable abbrev cw_1010 : Cond := Cond.instanceMethod yX2_wideText
noncomputable abbrev cw_1011 : Cond := Cond.selects RX2 yX2_wideText yX2_wideText
noncomputable abbrev cw_1012 : Cond := Cond.code yX2_wideText cX2_wideText 2 (some (.object "java/lang/String"))
noncomputable def wsL_wideText_r1 : List Cond := [cw_831, cw_1009, cw_1010, cw_1011, cw_24, cw_1012, cw_385, cw_443, cw_444, cw_445, cw_33, cw_446, cw_3, cw_5, cw_23, cw_25, cw_7, cw_8, cw_336, cw_337, cw_338, cw_15, cw_339, cw_324]
noncomputable def wsL_wideText_r2 : List Cond := [cw_277, cw_266, cw_325, cw_326, cw_327, cw_131, cw_132, cw_133, cw_134, cw_124, cw_1, cw_2, cw_125, cw_119, cw_126, cw_127, cw_128, cw_129, cw_122, cw_130, cw_120, cw_121, cw_123, cw_118]
noncomputable def wsL_wideText_r3 : List Cond := [cw_84, cw_85, cw_86, cw_87, cw_40, cw_268, cw_269, cw_270, cw_271, cw_226, cw_227, cw_228, cw_229, cw_230, cw_191, cw_210, cw_211, cw_212, cw_213, cw_214, cw_158, cw_159, cw_160, cw_161]
noncomputable def wsL_wideText_r4 : List Cond := [cw_162, cw_144, cw_145, cw_146, cw_142, cw_147, cw_136, cw_137, cw_138, cw_139, cw_135, cw_140, cw_141, cw_143, cw_163, cw_164, cw_165, cw_166, cw_148, cw_149, cw_150, cw_151, cw_152, cw_153]
noncomputable def wsL_wideText_r5 : List Cond := [cw_154, cw_155, cw_156, cw_157, cw_111, cw_112, cw_113, cw_192, cw_193, cw_194, cw_195, cw_196, cw_215, cw_216, cw_199, cw_217, cw_218, cw_219, cw_220, cw_221, cw_222, cw_197, cw_198, cw_200]
noncomputable def wsL_wideText_r6 : List Cond := [cw_188, cw_189, cw_190, cw_182, cw_183, cw_184, cw_172, cw_173, cw_174, cw_175, cw_176, cw_177, cw_178, cw_167, cw_168, cw_169, cw_170, cw_171, cw_185, cw_186, cw_187, cw_179, cw_180, cw_181]
noncomputable def wsL_wideText_r7 : List Cond := [cw_223, cw_224, cw_225, cw_207, cw_208, cw_209, cw_204, cw_205, cw_206, cw_201, cw_202, cw_203, cw_12, cw_13, cw_14, cw_16, cw_9, cw_10, cw_263, cw_264, cw_265, cw_267, cw_257, cw_258]
noncomputable def wsL_wideText_r8 : List Cond := [cw_259, cw_260, cw_247, cw_248, cw_249, cw_250, cw_251, cw_252, cw_253, cw_231, cw_232, cw_254, cw_255, cw_256, cw_241, cw_242, cw_243, cw_236, cw_237, cw_238, cw_233, cw_234, cw_235, cw_244]
noncomputable def wsL_wideText_r9 : List Cond := [cw_245, cw_246, cw_239, cw_240, cw_17, cw_18, cw_19, cw_20, cw_11, cw_328, cw_329, cw_330, cw_331, cw_261, cw_262, cw_332, cw_333, cw_334, cw_335, cw_319, cw_320, cw_321, cw_322, cw_323]
noncomputable def wsL_wideText_r10 : List Cond := [cw_316, cw_317, cw_318, cw_293, cw_294, cw_295, cw_296, cw_297, cw_298, cw_299, cw_300, cw_301, cw_302, cw_303, cw_273, cw_304, cw_305, cw_306, cw_307, cw_272, cw_274, cw_275, cw_308, cw_309]
noncomputable def wsL_wideText_r11 : List Cond := [cw_291, cw_292, cw_281, cw_282, cw_283, cw_278, cw_279, cw_280, cw_276, cw_310, cw_311, cw_312, cw_287, cw_288, cw_289, cw_284, cw_285, cw_286, cw_290, cw_313, cw_314, cw_315]
noncomputable def wsL_wideText : List Cond := .codeWith yL_wideText cL_wideText 4 (some .int) [(0, 9, 12, 19)] :: ((wsL_wideText_r1 ++ (wsL_wideText_r2 ++ (wsL_wideText_r3 ++ (wsL_wideText_r4 ++ (wsL_wideText_r5 ++ (wsL_wideText_r6 ++ (wsL_wideText_r7 ++ (wsL_wideText_r8 ++ (wsL_wideText_r9 ++ (wsL_wideText_r10 ++ wsL_wideText_r11)))))))))) ++ wsX30 ++ wsX20 ++ wsX00 ++ wsJ40 ++ wsX10 ++ wsJ00 ++ (vx_atS RX2 152 "java/lang/IndexOutOfBoundsException" ["java/lang/RuntimeException", "java/lang/Exception"]).filter goodWord)
noncomputable abbrev cw_1013 : Cond := Cond.methodLink RL 135 yX2_narrowText
noncomputable abbrev cw_1014 : Cond := Cond.instanceMethod yX2_narrowText
noncomputable abbrev cw_1015 : Cond := Cond.selects RX2 yX2_narrowText yX2_narrowText
noncomputable abbrev cw_1016 : Cond := Cond.code yX2_narrowText cX2_narrowText 2 (some (.object "java/lang/String"))
noncomputable def wsL_narrowText_r1 : List Cond := [cw_831, cw_1013, cw_1014, cw_1015, cw_24, cw_1016, cw_387, cw_443, cw_444, cw_445, cw_33, cw_446, cw_3, cw_5, cw_23, cw_25, cw_7, cw_8, cw_336, cw_337, cw_338, cw_15, cw_339, cw_324]
noncomputable def wsL_narrowText_r2 : List Cond := [cw_277, cw_266, cw_325, cw_326, cw_327, cw_131, cw_132, cw_133, cw_134, cw_124, cw_1, cw_2, cw_125, cw_119, cw_126, cw_127, cw_128, cw_129, cw_122, cw_130, cw_120, cw_121, cw_123, cw_118]
noncomputable def wsL_narrowText_r3 : List Cond := [cw_84, cw_85, cw_86, cw_87, cw_40, cw_268, cw_269, cw_270, cw_271, cw_226, cw_227, cw_228, cw_229, cw_230, cw_191, cw_210, cw_211, cw_212, cw_213, cw_214, cw_158, cw_159, cw_160, cw_161]
noncomputable def wsL_narrowText_r4 : List Cond := [cw_162, cw_144, cw_145, cw_146, cw_142, cw_147, cw_136, cw_137, cw_138, cw_139, cw_135, cw_140, cw_141, cw_143, cw_163, cw_164, cw_165, cw_166, cw_148, cw_149, cw_150, cw_151, cw_152, cw_153]
noncomputable def wsL_narrowText_r5 : List Cond := [cw_154, cw_155, cw_156, cw_157, cw_111, cw_112, cw_113, cw_192, cw_193, cw_194, cw_195, cw_196, cw_215, cw_216, cw_199, cw_217, cw_218, cw_219, cw_220, cw_221, cw_222, cw_197, cw_198, cw_200]
noncomputable def wsL_narrowText_r6 : List Cond := [cw_188, cw_189, cw_190, cw_182, cw_183, cw_184, cw_172, cw_173, cw_174, cw_175, cw_176, cw_177, cw_178, cw_167, cw_168, cw_169, cw_170, cw_171, cw_185, cw_186, cw_187, cw_179, cw_180, cw_181]
noncomputable def wsL_narrowText_r7 : List Cond := [cw_223, cw_224, cw_225, cw_207, cw_208, cw_209, cw_204, cw_205, cw_206, cw_201, cw_202, cw_203, cw_12, cw_13, cw_14, cw_16, cw_9, cw_10, cw_263, cw_264, cw_265, cw_267, cw_257, cw_258]
noncomputable def wsL_narrowText_r8 : List Cond := [cw_259, cw_260, cw_247, cw_248, cw_249, cw_250, cw_251, cw_252, cw_253, cw_231, cw_232, cw_254, cw_255, cw_256, cw_241, cw_242, cw_243, cw_236, cw_237, cw_238, cw_233, cw_234, cw_235, cw_244]
noncomputable def wsL_narrowText_r9 : List Cond := [cw_245, cw_246, cw_239, cw_240, cw_17, cw_18, cw_19, cw_20, cw_11, cw_328, cw_329, cw_330, cw_331, cw_261, cw_262, cw_332, cw_333, cw_334, cw_335, cw_319, cw_320, cw_321, cw_322, cw_323]
noncomputable def wsL_narrowText_r10 : List Cond := [cw_316, cw_317, cw_318, cw_293, cw_294, cw_295, cw_296, cw_297, cw_298, cw_299, cw_300, cw_301, cw_302, cw_303, cw_273, cw_304, cw_305, cw_306, cw_307, cw_272, cw_274, cw_275, cw_308, cw_309]
noncomputable def wsL_narrowText_r11 : List Cond := [cw_291, cw_292, cw_281, cw_282, cw_283, cw_278, cw_279, cw_280, cw_276, cw_310, cw_311, cw_312, cw_287, cw_288, cw_289, cw_284, cw_285, cw_286, cw_290, cw_313, cw_314, cw_315]
noncomputable def wsL_narrowText : List Cond := .codeWith yL_narrowText cL_narrowText 4 (some .int) [(0, 9, 12, 19)] :: ((wsL_narrowText_r1 ++ (wsL_narrowText_r2 ++ (wsL_narrowText_r3 ++ (wsL_narrowText_r4 ++ (wsL_narrowText_r5 ++ (wsL_narrowText_r6 ++ (wsL_narrowText_r7 ++ (wsL_narrowText_r8 ++ (wsL_narrowText_r9 ++ (wsL_narrowText_r10 ++ wsL_narrowText_r11)))))))))) ++ wsX30 ++ wsX20 ++ wsX00 ++ wsJ40 ++ wsX10 ++ wsJ00 ++ (vx_atS RX2 152 "java/lang/IndexOutOfBoundsException" ["java/lang/RuntimeException", "java/lang/Exception"]).filter goodWord)
/-! the texts -/
theorem jx_of {w : Bool} {d : Int64} (h : okN w d) : (∃ ex, ex ≤ 2047 ∧ o_X1_exponent w d = nI ex ∧ o_X4_exponent w d = lN ex) ∧ ∃ Wn, Wn < 4503599627370496 ∧ o_X1_fraction w d = lN Wn ∧ o_X4_fraction w d = lN Wn := by
  obtain ⟨n, hn, rfl⟩ := mo_of h
  have hP : 0 < bP w ∧ bP w ≤ 4503599627370496 ∧ bQ w ≤ 2048 ∧ 0 < bQ w ∧ bB w = bQ w / 2 * bP w * 1 ∨ True := Or.inr trivial
  refine ⟨⟨n / bP w % bQ w, ?_, mp_ex hn, ?_⟩, ⟨n % bP w, ?_, mp_fr w n, mp_fr4 w n⟩⟩
  · cases w
    · have : n / bP false % bQ false < bQ false := Nat.mod_lt _ (by decide +kernel)
      have h2 : bQ false = 256 := rfl
      omega
    · have : n / bP true % bQ true < bQ true := Nat.mod_lt _ (by decide +kernel)
      have h2 : bQ true = 2048 := rfl
      omega
  · rw [mp_ex4 hn]
    congr 1
    cases w
    · show n % 2147483648 / 8388608 = n / 8388608 % 256
      omega
    · show n % 9223372036854775808 / 4503599627370496 = n / 4503599627370496 % 2048
      omega
  · cases w
    · have : n % bP false < bP false := Nat.mod_lt _ (by decide +kernel)
      have h2 : bP false = 8388608 := rfl
      omega
    · exact Nat.mod_lt _ (by decide +kernel)
theorem tS_of {adK adV : Nat → Nat} {A : Nat → Prop} {U : State} {H : Heap} (h : vk_S 3 tLen tByt adK adV A U H) : vk_S 1 [2] [[49, 32]] (fun _ => adK 0) (fun _ => adV 0) A U H ∧ vk_S 1 [2] [[48, 32]] (fun _ => adK 1) (fun _ => adV 1) A U H ∧ vk_S 1 [1] [[32]] (fun _ => adK 2) (fun _ => adV 2) A U H := by
  refine ⟨⟨fun i hi => ?_, fun i j hi hj _ => by omega⟩, ⟨fun i hi => ?_, fun i j hi hj _ => by omega⟩, ⟨fun i hi => ?_, fun i j hi hj _ => by omega⟩⟩
  · obtain rfl : i = 0 := by omega
    exact h.1 0 (by decide +kernel)
  · obtain rfl : i = 0 := by omega
    exact h.1 1 (by decide +kernel)
  · obtain rfl : i = 0 := by omega
    exact h.1 2 (by decide +kernel)
theorem tf_0 : sb_Fit (fun j => ([49, 32] : List Int32).getD j 0) := by
  intro j
  rcases j with _ | _ | j
  · decide
  · decide
  · show fits .byte (.int 0) = true
    decide
theorem tf_1 : sb_Fit (fun j => ([48, 32] : List Int32).getD j 0) := by
  intro j
  rcases j with _ | _ | j
  · decide
  · decide
  · show fits .byte (.int 0) = true
    decide
theorem tf_2 : sb_Fit (fun j => ([32] : List Int32).getD j 0) := by
  intro j
  rcases j with _ | j
  · decide
  · show fits .byte (.int 0) = true
    decide
theorem jt_in {p : Int32} (h : ¬ (o_X5_fails (o_X5_isNo p) false).1 = true) : vp_in p 8 := by
  rcases me_cell p with ⟨_, _, h3⟩ | ⟨_, h2⟩
  · exact h3
  · rw [h2] at h
    exact absurd rfl h
section VXR
variable {p : Program} {l : Launch} {e : Env} {R : Room} {s : State} {m : MethodId} {args : Array Value} {below : List Frame} {meth : Method} {c : Code} {H H0 : Heap} {locs : List Loc} {cells slots mc ms pc : Nat} {ls : Array Slot} {st0 rest : List Value} {a : Array Value} {A0 A1 free : Nat → Prop} {Q : State → Prop}
theorem vx_callr {S SX : Type} {post : S → Prop} {px : SX → Prop} {B : S → Nat → State → Prop} {BX : String → SX → State → Prop} {AX : Nat → Prop} (hr : vx_Run p l e R s m args below meth c H locs cells slots mc ms (F0 m pc ls st0) rest (va_Qr post B A1 a) (vx_X px BX AX) free) (hS : va_S A0 H0 H locs) (hA : ∀ q, q < H.size → A1 q → A0 q) (hf : ∀ q, free q → A0 q) (hAX : ∀ q, q < H.size → AX q → A0 q)
    (kx : ∀ (E : String) (ce : Cell) (q9 : Addr) (u : SX) (t : State) (H1 : Heap) (locs1 : List Loc), t.heap = H1 → s.vm.Alike t.vm → px u → BX E u t → H.size ≤ H1.size → (∀ q : Nat, q < H.size → ¬ AX q → H1[q]? = H[q]?) → va_S A0 H0 H1 locs1 → H1[q9]? = some ce → ce.vm = .none → s.vm.findClass E = some ce.cls → vx_W p l e R s m args below meth c H1 locs1 (cells + mc) (slots + ms) Q (F0 m pc ls rest) q9)
    (kk : ∀ (u : S) (ra : Nat) (t : State) (H1 : Heap) (locs1 : List Loc), t.heap = H1 → s.vm.Alike t.vm → post u → B u ra t → H.size ≤ H1.size → (∀ q : Nat, q < H.size → ¬ A1 q → H1[q]? = H[q]?) → va_S A0 H0 H1 locs1 → W p l e R s m args below meth c H1 locs1 (cells + mc) (slots + ms) Q (F0 m (pc + 3) ls (.ref ra :: rest))) : W p l e R s m args below meth c H locs cells slots Q (F0 m pc ls st0) := by
  intro T hT X
  rcases hr T hT X with ⟨v, st₀, t, T', L, h0, X', hL, e1, e2, ⟨⟨u, ra, hv, hp, hb⟩, hF⟩, st⟩ | ⟨q, st₀, t, T', L, E, ce, h0, X', hL, e1, e2, ⟨u, hp, hb, hF⟩, hce, hcv, hcl, st⟩
  · cases hv
    obtain ⟨k1, k2, k3⟩ := vx_keep h0 e1 hS hA hf hL hF
    obtain ⟨t2, a1, b1⟩ := kk u ra t T'.heap (locs ++ L) e1.symm (by rw [← e2]; exact X'.warmed.alike) hp hb k1 k2 k3 T' rfl X'
    exact ⟨t2, st t2 a1, b1⟩
  · obtain ⟨k1, k2, k3⟩ := vx_keep h0 e1 hS hAX hf hL hF
    obtain ⟨t2, a1, b1⟩ := kx E ce q u t T'.heap (locs ++ L) e1.symm (by rw [← e2]; exact X'.warmed.alike) hp hb k1 k2 k3 (by rw [e1]; exact hce) hcv hcl T' rfl X'
    exact ⟨t2, st.trans a1, b1⟩
end VXR

theorem cl_X1_appendWhole_1 : ∀ w ∈ wsX1_appendWhole_r1, w ∈ wsX1_appendWhole := fun _ h => (List.mem_cons_of_mem _ (List.mem_append_left _ (List.mem_append_left _ h)))
theorem cl_X1_appendWhole_2 : ∀ w ∈ wsX1_appendWhole_r2, w ∈ wsX1_appendWhole := fun _ h => (List.mem_cons_of_mem _ (List.mem_append_left _ (List.mem_append_right _ (List.mem_append_left _ h))))
theorem cl_X1_appendWhole_3 : ∀ w ∈ wsX1_appendWhole_r3, w ∈ wsX1_appendWhole := fun _ h => (List.mem_cons_of_mem _ (List.mem_append_left _ (List.mem_append_right _ (List.mem_append_right _ (List.mem_append_left _ h)))))
theorem cl_X1_appendWhole_4 : ∀ w ∈ wsX1_appendWhole_r4, w ∈ wsX1_appendWhole := fun _ h => (List.mem_cons_of_mem _ (List.mem_append_left _ (List.mem_append_right _ (List.mem_append_right _ (List.mem_append_right _ (List.mem_append_left _ h))))))
theorem cl_X1_appendWhole_5 : ∀ w ∈ wsX1_appendWhole_r5, w ∈ wsX1_appendWhole := fun _ h => (List.mem_cons_of_mem _ (List.mem_append_left _ (List.mem_append_right _ (List.mem_append_right _ (List.mem_append_right _ (List.mem_append_right _ (List.mem_append_left _ h)))))))
theorem cl_X1_appendWhole_6 : ∀ w ∈ wsX1_appendWhole_r6, w ∈ wsX1_appendWhole := fun _ h => (List.mem_cons_of_mem _ (List.mem_append_left _ (List.mem_append_right _ (List.mem_append_right _ (List.mem_append_right _ (List.mem_append_right _ (List.mem_append_right _ (List.mem_append_left _ h))))))))
theorem cl_X1_appendWhole_7 : ∀ w ∈ wsX1_appendWhole_r7, w ∈ wsX1_appendWhole := fun _ h => (List.mem_cons_of_mem _ (List.mem_append_left _ (List.mem_append_right _ (List.mem_append_right _ (List.mem_append_right _ (List.mem_append_right _ (List.mem_append_right _ (List.mem_append_right _ h))))))))
theorem cl_X1_appendWhole_8 : ∀ w ∈ wsJ40, w ∈ wsX1_appendWhole := fun _ h => (List.mem_cons_of_mem _ (List.mem_append_right _ h))
set_option maxRecDepth 20000 in
theorem ggX1_appendWhole_J4_append_bf812 : GoodIn wsX1_appendWhole wsJ4_append_bf812 := goodIn_sub (List.forall_mem_cons.mpr ⟨(cl_X1_appendWhole_1 _ (List.mem_of_getElem? (i := 6) rfl)), fun w h => (List.mem_append.mp h).elim ((fun w h => (List.mem_append.mp h).elim ((List.forall_mem_cons.mpr ⟨(cl_X1_appendWhole_1 _ (List.mem_of_getElem? (i := 7) rfl)), List.forall_mem_cons.mpr ⟨(cl_X1_appendWhole_1 _ (List.mem_of_getElem? (i := 8) rfl)), List.forall_mem_cons.mpr ⟨(cl_X1_appendWhole_1 _ (List.mem_of_getElem? (i := 9) rfl)), List.forall_mem_cons.mpr ⟨(cl_X1_appendWhole_1 _ (List.mem_of_getElem? (i := 10) rfl)), List.forall_mem_cons.mpr ⟨(cl_X1_appendWhole_1 _ (List.mem_of_getElem? (i := 11) rfl)), List.forall_mem_cons.mpr ⟨(cl_X1_appendWhole_1 _ (List.mem_of_getElem? (i := 12) rfl)), List.forall_mem_cons.mpr ⟨(cl_X1_appendWhole_1 _ (List.mem_of_getElem? (i := 13) rfl)), List.forall_mem_cons.mpr ⟨(cl_X1_appendWhole_1 _ (List.mem_of_getElem? (i := 14) rfl)), List.forall_mem_cons.mpr ⟨(cl_X1_appendWhole_1 _ (List.mem_of_getElem? (i := 15) rfl)), List.forall_mem_cons.mpr ⟨(cl_X1_appendWhole_1 _ (List.mem_of_getElem? (i := 16) rfl)), List.forall_mem_cons.mpr ⟨(cl_X1_appendWhole_1 _ (List.mem_of_getElem? (i := 17) rfl)), List.forall_mem_cons.mpr ⟨(cl_X1_appendWhole_1 _ (List.mem_of_getElem? (i := 18) rfl)), List.forall_mem_cons.mpr ⟨(cl_X1_appendWhole_1 _ (List.mem_of_getElem? (i := 19) rfl)), List.forall_mem_cons.mpr ⟨(cl_X1_appendWhole_1 _ (List.mem_of_getElem? (i := 20) rfl)), List.forall_mem_cons.mpr ⟨(cl_X1_appendWhole_1 _ (List.mem_of_getElem? (i := 21) rfl)), List.forall_mem_cons.mpr ⟨(cl_X1_appendWhole_1 _ (List.mem_of_getElem? (i := 22) rfl)), List.forall_mem_cons.mpr ⟨(cl_X1_appendWhole_1 _ (List.mem_of_getElem? (i := 23) rfl)), List.forall_mem_cons.mpr ⟨(cl_X1_appendWhole_2 _ (List.mem_of_getElem? (i := 0) rfl)), List.forall_mem_cons.mpr ⟨(cl_X1_appendWhole_2 _ (List.mem_of_getElem? (i := 1) rfl)), List.forall_mem_cons.mpr ⟨(cl_X1_appendWhole_2 _ (List.mem_of_getElem? (i := 2) rfl)), List.forall_mem_cons.mpr ⟨(cl_X1_appendWhole_2 _ (List.mem_of_getElem? (i := 3) rfl)), List.forall_mem_cons.mpr ⟨(cl_X1_appendWhole_2 _ (List.mem_of_getElem? (i := 4) rfl)), List.forall_mem_cons.mpr ⟨(cl_X1_appendWhole_2 _ (List.mem_of_getElem? (i := 5) rfl)), List.forall_mem_cons.mpr ⟨(cl_X1_appendWhole_2 _ (List.mem_of_getElem? (i := 6) rfl)), fun _ h => absurd h List.not_mem_nil⟩⟩⟩⟩⟩⟩⟩⟩⟩⟩⟩⟩⟩⟩⟩⟩⟩⟩⟩⟩⟩⟩⟩⟩) w) ((fun w h => (List.mem_append.mp h).elim ((List.forall_mem_cons.mpr ⟨(cl_X1_appendWhole_2 _ (List.mem_of_getElem? (i := 7) rfl)), List.forall_mem_cons.mpr ⟨(cl_X1_appendWhole_2 _ (List.mem_of_getElem? (i := 8) rfl)), List.forall_mem_cons.mpr ⟨(cl_X1_appendWhole_2 _ (List.mem_of_getElem? (i := 9) rfl)), List.forall_mem_cons.mpr ⟨(cl_X1_appendWhole_2 _ (List.mem_of_getElem? (i := 10) rfl)), List.forall_mem_cons.mpr ⟨(cl_X1_appendWhole_2 _ (List.mem_of_getElem? (i := 11) rfl)), List.forall_mem_cons.mpr ⟨(cl_X1_appendWhole_2 _ (List.mem_of_getElem? (i := 12) rfl)), List.forall_mem_cons.mpr ⟨(cl_X1_appendWhole_2 _ (List.mem_of_getElem? (i := 13) rfl)), List.forall_mem_cons.mpr ⟨(cl_X1_appendWhole_2 _ (List.mem_of_getElem? (i := 14) rfl)), List.forall_mem_cons.mpr ⟨(cl_X1_appendWhole_2 _ (List.mem_of_getElem? (i := 15) rfl)), List.forall_mem_cons.mpr ⟨(cl_X1_appendWhole_2 _ (List.mem_of_getElem? (i := 16) rfl)), List.forall_mem_cons.mpr ⟨(cl_X1_appendWhole_2 _ (List.mem_of_getElem? (i := 17) rfl)), List.forall_mem_cons.mpr ⟨(cl_X1_appendWhole_2 _ (List.mem_of_getElem? (i := 18) rfl)), List.forall_mem_cons.mpr ⟨(cl_X1_appendWhole_2 _ (List.mem_of_getElem? (i := 19) rfl)), List.forall_mem_cons.mpr ⟨(cl_X1_appendWhole_2 _ (List.mem_of_getElem? (i := 20) rfl)), List.forall_mem_cons.mpr ⟨(cl_X1_appendWhole_2 _ (List.mem_of_getElem? (i := 21) rfl)), List.forall_mem_cons.mpr ⟨(cl_X1_appendWhole_2 _ (List.mem_of_getElem? (i := 22) rfl)), List.forall_mem_cons.mpr ⟨(cl_X1_appendWhole_2 _ (List.mem_of_getElem? (i := 23) rfl)), List.forall_mem_cons.mpr ⟨(cl_X1_appendWhole_3 _ (List.mem_of_getElem? (i := 0) rfl)), List.forall_mem_cons.mpr ⟨(cl_X1_appendWhole_3 _ (List.mem_of_getElem? (i := 1) rfl)), List.forall_mem_cons.mpr ⟨(cl_X1_appendWhole_3 _ (List.mem_of_getElem? (i := 2) rfl)), List.forall_mem_cons.mpr ⟨(cl_X1_appendWhole_3 _ (List.mem_of_getElem? (i := 3) rfl)), List.forall_mem_cons.mpr ⟨(cl_X1_appendWhole_3 _ (List.mem_of_getElem? (i := 4) rfl)), List.forall_mem_cons.mpr ⟨(cl_X1_appendWhole_3 _ (List.mem_of_getElem? (i := 5) rfl)), List.forall_mem_cons.mpr ⟨(cl_X1_appendWhole_3 _ (List.mem_of_getElem? (i := 6) rfl)), fun _ h => absurd h List.not_mem_nil⟩⟩⟩⟩⟩⟩⟩⟩⟩⟩⟩⟩⟩⟩⟩⟩⟩⟩⟩⟩⟩⟩⟩⟩) w) ((fun w h => (List.mem_append.mp h).elim ((List.forall_mem_cons.mpr ⟨(cl_X1_appendWhole_3 _ (List.mem_of_getElem? (i := 7) rfl)), List.forall_mem_cons.mpr ⟨(cl_X1_appendWhole_3 _ (List.mem_of_getElem? (i := 8) rfl)), List.forall_mem_cons.mpr ⟨(cl_X1_appendWhole_3 _ (List.mem_of_getElem? (i := 9) rfl)), List.forall_mem_cons.mpr ⟨(cl_X1_appendWhole_3 _ (List.mem_of_getElem? (i := 10) rfl)), List.forall_mem_cons.mpr ⟨(cl_X1_appendWhole_3 _ (List.mem_of_getElem? (i := 11) rfl)), List.forall_mem_cons.mpr ⟨(cl_X1_appendWhole_3 _ (List.mem_of_getElem? (i := 12) rfl)), List.forall_mem_cons.mpr ⟨(cl_X1_appendWhole_3 _ (List.mem_of_getElem? (i := 13) rfl)), List.forall_mem_cons.mpr ⟨(cl_X1_appendWhole_3 _ (List.mem_of_getElem? (i := 14) rfl)), List.forall_mem_cons.mpr ⟨(cl_X1_appendWhole_3 _ (List.mem_of_getElem? (i := 15) rfl)), List.forall_mem_cons.mpr ⟨(cl_X1_appendWhole_3 _ (List.mem_of_getElem? (i := 16) rfl)), List.forall_mem_cons.mpr ⟨(cl_X1_appendWhole_3 _ (List.mem_of_getElem? (i := 17) rfl)), List.forall_mem_cons.mpr ⟨(cl_X1_appendWhole_3 _ (List.mem_of_getElem? (i := 18) rfl)), List.forall_mem_cons.mpr ⟨(cl_X1_appendWhole_3 _ (List.mem_of_getElem? (i := 19) rfl)), List.forall_mem_cons.mpr ⟨(cl_X1_appendWhole_3 _ (List.mem_of_getElem? (i := 20) rfl)), List.forall_mem_cons.mpr ⟨(cl_X1_appendWhole_3 _ (List.mem_of_getElem? (i := 21) rfl)), List.forall_mem_cons.mpr ⟨(cl_X1_appendWhole_3 _ (List.mem_of_getElem? (i := 22) rfl)), List.forall_mem_cons.mpr ⟨(cl_X1_appendWhole_3 _ (List.mem_of_getElem? (i := 23) rfl)), List.forall_mem_cons.mpr ⟨(cl_X1_appendWhole_4 _ (List.mem_of_getElem? (i := 0) rfl)), List.forall_mem_cons.mpr ⟨(cl_X1_appendWhole_4 _ (List.mem_of_getElem? (i := 1) rfl)), List.forall_mem_cons.mpr ⟨(cl_X1_appendWhole_4 _ (List.mem_of_getElem? (i := 2) rfl)), List.forall_mem_cons.mpr ⟨(cl_X1_appendWhole_4 _ (List.mem_of_getElem? (i := 3) rfl)), List.forall_mem_cons.mpr ⟨(cl_X1_appendWhole_4 _ (List.mem_of_getElem? (i := 4) rfl)), List.forall_mem_cons.mpr ⟨(cl_X1_appendWhole_4 _ (List.mem_of_getElem? (i := 5) rfl)), List.forall_mem_cons.mpr ⟨(cl_X1_appendWhole_4 _ (List.mem_of_getElem? (i := 6) rfl)), fun _ h => absurd h List.not_mem_nil⟩⟩⟩⟩⟩⟩⟩⟩⟩⟩⟩⟩⟩⟩⟩⟩⟩⟩⟩⟩⟩⟩⟩⟩) w) ((List.forall_mem_cons.mpr ⟨(cl_X1_appendWhole_4 _ (List.mem_of_getElem? (i := 7) rfl)), List.forall_mem_cons.mpr ⟨(cl_X1_appendWhole_4 _ (List.mem_of_getElem? (i := 8) rfl)), List.forall_mem_cons.mpr ⟨(cl_X1_appendWhole_4 _ (List.mem_of_getElem? (i := 9) rfl)), List.forall_mem_cons.mpr ⟨(cl_X1_appendWhole_4 _ (List.mem_of_getElem? (i := 10) rfl)), List.forall_mem_cons.mpr ⟨(cl_X1_appendWhole_4 _ (List.mem_of_getElem? (i := 11) rfl)), List.forall_mem_cons.mpr ⟨(cl_X1_appendWhole_4 _ (List.mem_of_getElem? (i := 12) rfl)), List.forall_mem_cons.mpr ⟨(cl_X1_appendWhole_4 _ (List.mem_of_getElem? (i := 13) rfl)), List.forall_mem_cons.mpr ⟨(cl_X1_appendWhole_4 _ (List.mem_of_getElem? (i := 14) rfl)), List.forall_mem_cons.mpr ⟨(cl_X1_appendWhole_4 _ (List.mem_of_getElem? (i := 15) rfl)), List.forall_mem_cons.mpr ⟨(cl_X1_appendWhole_4 _ (List.mem_of_getElem? (i := 16) rfl)), List.forall_mem_cons.mpr ⟨(cl_X1_appendWhole_4 _ (List.mem_of_getElem? (i := 17) rfl)), List.forall_mem_cons.mpr ⟨(cl_X1_appendWhole_4 _ (List.mem_of_getElem? (i := 18) rfl)), List.forall_mem_cons.mpr ⟨(cl_X1_appendWhole_4 _ (List.mem_of_getElem? (i := 19) rfl)), List.forall_mem_cons.mpr ⟨(cl_X1_appendWhole_4 _ (List.mem_of_getElem? (i := 20) rfl)), List.forall_mem_cons.mpr ⟨(cl_X1_appendWhole_4 _ (List.mem_of_getElem? (i := 21) rfl)), List.forall_mem_cons.mpr ⟨(cl_X1_appendWhole_4 _ (List.mem_of_getElem? (i := 22) rfl)), List.forall_mem_cons.mpr ⟨(cl_X1_appendWhole_4 _ (List.mem_of_getElem? (i := 23) rfl)), List.forall_mem_cons.mpr ⟨(cl_X1_appendWhole_5 _ (List.mem_of_getElem? (i := 0) rfl)), List.forall_mem_cons.mpr ⟨(cl_X1_appendWhole_5 _ (List.mem_of_getElem? (i := 1) rfl)), List.forall_mem_cons.mpr ⟨(cl_X1_appendWhole_5 _ (List.mem_of_getElem? (i := 2) rfl)), List.forall_mem_cons.mpr ⟨(cl_X1_appendWhole_5 _ (List.mem_of_getElem? (i := 3) rfl)), List.forall_mem_cons.mpr ⟨(cl_X1_appendWhole_5 _ (List.mem_of_getElem? (i := 4) rfl)), List.forall_mem_cons.mpr ⟨(cl_X1_appendWhole_5 _ (List.mem_of_getElem? (i := 5) rfl)), fun _ h => absurd h List.not_mem_nil⟩⟩⟩⟩⟩⟩⟩⟩⟩⟩⟩⟩⟩⟩⟩⟩⟩⟩⟩⟩⟩⟩⟩) w)) w)) w)) w) ((cl_X1_appendWhole_8) w)⟩) (by decide +kernel)
set_option maxRecDepth 20000 in
theorem gX1_appendWhole_J4_append_bf812 : GoodIn wsX1_appendWhole (wsV RX1 83 RJ4 yJ4_append_bf812 wsJ4_append_bf812) := goodIn_app (goodIn_sub (List.forall_mem_cons.mpr ⟨(cl_X1_appendWhole_1 _ (List.mem_of_getElem? (i := 2) rfl)), List.forall_mem_cons.mpr ⟨(cl_X1_appendWhole_1 _ (List.mem_of_getElem? (i := 3) rfl)), List.forall_mem_cons.mpr ⟨(cl_X1_appendWhole_1 _ (List.mem_of_getElem? (i := 4) rfl)), List.forall_mem_cons.mpr ⟨(cl_X1_appendWhole_1 _ (List.mem_of_getElem? (i := 5) rfl)), fun _ h => absurd h List.not_mem_nil⟩⟩⟩⟩) (by decide +kernel)) ggX1_appendWhole_J4_append_bf812
set_option maxRecDepth 20000 in
theorem ggX1_appendWhole_J4_append_cf468 : GoodIn wsX1_appendWhole wsJ4_append_cf468 := goodIn_sub (List.forall_mem_cons.mpr ⟨(cl_X1_appendWhole_5 _ (List.mem_of_getElem? (i := 9) rfl)), fun w h => (List.mem_append.mp h).elim ((fun w h => (List.mem_append.mp h).elim ((List.forall_mem_cons.mpr ⟨(cl_X1_appendWhole_5 _ (List.mem_of_getElem? (i := 10) rfl)), List.forall_mem_cons.mpr ⟨(cl_X1_appendWhole_5 _ (List.mem_of_getElem? (i := 11) rfl)), List.forall_mem_cons.mpr ⟨(cl_X1_appendWhole_1 _ (List.mem_of_getElem? (i := 9) rfl)), List.forall_mem_cons.mpr ⟨(cl_X1_appendWhole_5 _ (List.mem_of_getElem? (i := 12) rfl)), List.forall_mem_cons.mpr ⟨(cl_X1_appendWhole_1 _ (List.mem_of_getElem? (i := 11) rfl)), List.forall_mem_cons.mpr ⟨(cl_X1_appendWhole_5 _ (List.mem_of_getElem? (i := 13) rfl)), List.forall_mem_cons.mpr ⟨(cl_X1_appendWhole_1 _ (List.mem_of_getElem? (i := 13) rfl)), List.forall_mem_cons.mpr ⟨(cl_X1_appendWhole_1 _ (List.mem_of_getElem? (i := 14) rfl)), List.forall_mem_cons.mpr ⟨(cl_X1_appendWhole_1 _ (List.mem_of_getElem? (i := 19) rfl)), List.forall_mem_cons.mpr ⟨(cl_X1_appendWhole_1 _ (List.mem_of_getElem? (i := 20) rfl)), List.forall_mem_cons.mpr ⟨(cl_X1_appendWhole_1 _ (List.mem_of_getElem? (i := 21) rfl)), List.forall_mem_cons.mpr ⟨(cl_X1_appendWhole_1 _ (List.mem_of_getElem? (i := 22) rfl)), List.forall_mem_cons.mpr ⟨(cl_X1_appendWhole_1 _ (List.mem_of_getElem? (i := 23) rfl)), List.forall_mem_cons.mpr ⟨(cl_X1_appendWhole_2 _ (List.mem_of_getElem? (i := 0) rfl)), List.forall_mem_cons.mpr ⟨(cl_X1_appendWhole_2 _ (List.mem_of_getElem? (i := 1) rfl)), List.forall_mem_cons.mpr ⟨(cl_X1_appendWhole_2 _ (List.mem_of_getElem? (i := 2) rfl)), List.forall_mem_cons.mpr ⟨(cl_X1_appendWhole_2 _ (List.mem_of_getElem? (i := 3) rfl)), List.forall_mem_cons.mpr ⟨(cl_X1_appendWhole_2 _ (List.mem_of_getElem? (i := 4) rfl)), List.forall_mem_cons.mpr ⟨(cl_X1_appendWhole_2 _ (List.mem_of_getElem? (i := 5) rfl)), List.forall_mem_cons.mpr ⟨(cl_X1_appendWhole_2 _ (List.mem_of_getElem? (i := 6) rfl)), List.forall_mem_cons.mpr ⟨(cl_X1_appendWhole_2 _ (List.mem_of_getElem? (i := 7) rfl)), List.forall_mem_cons.mpr ⟨(cl_X1_appendWhole_2 _ (List.mem_of_getElem? (i := 8) rfl)), List.forall_mem_cons.mpr ⟨(cl_X1_appendWhole_2 _ (List.mem_of_getElem? (i := 9) rfl)), List.forall_mem_cons.mpr ⟨(cl_X1_appendWhole_2 _ (List.mem_of_getElem? (i := 10) rfl)), fun _ h => absurd h List.not_mem_nil⟩⟩⟩⟩⟩⟩⟩⟩⟩⟩⟩⟩⟩⟩⟩⟩⟩⟩⟩⟩⟩⟩⟩⟩) w) ((fun w h => (List.mem_append.mp h).elim ((List.forall_mem_cons.mpr ⟨(cl_X1_appendWhole_2 _ (List.mem_of_getElem? (i := 11) rfl)), List.forall_mem_cons.mpr ⟨(cl_X1_appendWhole_2 _ (List.mem_of_getElem? (i := 12) rfl)), List.forall_mem_cons.mpr ⟨(cl_X1_appendWhole_2 _ (List.mem_of_getElem? (i := 13) rfl)), List.forall_mem_cons.mpr ⟨(cl_X1_appendWhole_2 _ (List.mem_of_getElem? (i := 14) rfl)), List.forall_mem_cons.mpr ⟨(cl_X1_appendWhole_2 _ (List.mem_of_getElem? (i := 15) rfl)), List.forall_mem_cons.mpr ⟨(cl_X1_appendWhole_2 _ (List.mem_of_getElem? (i := 16) rfl)), List.forall_mem_cons.mpr ⟨(cl_X1_appendWhole_2 _ (List.mem_of_getElem? (i := 17) rfl)), List.forall_mem_cons.mpr ⟨(cl_X1_appendWhole_2 _ (List.mem_of_getElem? (i := 18) rfl)), List.forall_mem_cons.mpr ⟨(cl_X1_appendWhole_2 _ (List.mem_of_getElem? (i := 19) rfl)), List.forall_mem_cons.mpr ⟨(cl_X1_appendWhole_2 _ (List.mem_of_getElem? (i := 20) rfl)), List.forall_mem_cons.mpr ⟨(cl_X1_appendWhole_2 _ (List.mem_of_getElem? (i := 21) rfl)), List.forall_mem_cons.mpr ⟨(cl_X1_appendWhole_2 _ (List.mem_of_getElem? (i := 22) rfl)), List.forall_mem_cons.mpr ⟨(cl_X1_appendWhole_2 _ (List.mem_of_getElem? (i := 23) rfl)), List.forall_mem_cons.mpr ⟨(cl_X1_appendWhole_3 _ (List.mem_of_getElem? (i := 0) rfl)), List.forall_mem_cons.mpr ⟨(cl_X1_appendWhole_3 _ (List.mem_of_getElem? (i := 1) rfl)), List.forall_mem_cons.mpr ⟨(cl_X1_appendWhole_3 _ (List.mem_of_getElem? (i := 2) rfl)), List.forall_mem_cons.mpr ⟨(cl_X1_appendWhole_3 _ (List.mem_of_getElem? (i := 3) rfl)), List.forall_mem_cons.mpr ⟨(cl_X1_appendWhole_3 _ (List.mem_of_getElem? (i := 4) rfl)), List.forall_mem_cons.mpr ⟨(cl_X1_appendWhole_3 _ (List.mem_of_getElem? (i := 5) rfl)), List.forall_mem_cons.mpr ⟨(cl_X1_appendWhole_3 _ (List.mem_of_getElem? (i := 6) rfl)), List.forall_mem_cons.mpr ⟨(cl_X1_appendWhole_3 _ (List.mem_of_getElem? (i := 7) rfl)), List.forall_mem_cons.mpr ⟨(cl_X1_appendWhole_3 _ (List.mem_of_getElem? (i := 8) rfl)), List.forall_mem_cons.mpr ⟨(cl_X1_appendWhole_3 _ (List.mem_of_getElem? (i := 9) rfl)), List.forall_mem_cons.mpr ⟨(cl_X1_appendWhole_3 _ (List.mem_of_getElem? (i := 10) rfl)), fun _ h => absurd h List.not_mem_nil⟩⟩⟩⟩⟩⟩⟩⟩⟩⟩⟩⟩⟩⟩⟩⟩⟩⟩⟩⟩⟩⟩⟩⟩) w) ((fun w h => (List.mem_append.mp h).elim ((List.forall_mem_cons.mpr ⟨(cl_X1_appendWhole_3 _ (List.mem_of_getElem? (i := 11) rfl)), List.forall_mem_cons.mpr ⟨(cl_X1_appendWhole_3 _ (List.mem_of_getElem? (i := 12) rfl)), List.forall_mem_cons.mpr ⟨(cl_X1_appendWhole_3 _ (List.mem_of_getElem? (i := 13) rfl)), List.forall_mem_cons.mpr ⟨(cl_X1_appendWhole_3 _ (List.mem_of_getElem? (i := 14) rfl)), List.forall_mem_cons.mpr ⟨(cl_X1_appendWhole_3 _ (List.mem_of_getElem? (i := 15) rfl)), List.forall_mem_cons.mpr ⟨(cl_X1_appendWhole_3 _ (List.mem_of_getElem? (i := 16) rfl)), List.forall_mem_cons.mpr ⟨(cl_X1_appendWhole_3 _ (List.mem_of_getElem? (i := 17) rfl)), List.forall_mem_cons.mpr ⟨(cl_X1_appendWhole_3 _ (List.mem_of_getElem? (i := 18) rfl)), List.forall_mem_cons.mpr ⟨(cl_X1_appendWhole_5 _ (List.mem_of_getElem? (i := 14) rfl)), List.forall_mem_cons.mpr ⟨(cl_X1_appendWhole_5 _ (List.mem_of_getElem? (i := 15) rfl)), List.forall_mem_cons.mpr ⟨(cl_X1_appendWhole_5 _ (List.mem_of_getElem? (i := 16) rfl)), List.forall_mem_cons.mpr ⟨(cl_X1_appendWhole_5 _ (List.mem_of_getElem? (i := 17) rfl)), List.forall_mem_cons.mpr ⟨(cl_X1_appendWhole_5 _ (List.mem_of_getElem? (i := 18) rfl)), List.forall_mem_cons.mpr ⟨(cl_X1_appendWhole_5 _ (List.mem_of_getElem? (i := 19) rfl)), List.forall_mem_cons.mpr ⟨(cl_X1_appendWhole_5 _ (List.mem_of_getElem? (i := 20) rfl)), List.forall_mem_cons.mpr ⟨(cl_X1_appendWhole_5 _ (List.mem_of_getElem? (i := 21) rfl)), List.forall_mem_cons.mpr ⟨(cl_X1_appendWhole_5 _ (List.mem_of_getElem? (i := 22) rfl)), List.forall_mem_cons.mpr ⟨(cl_X1_appendWhole_5 _ (List.mem_of_getElem? (i := 23) rfl)), List.forall_mem_cons.mpr ⟨(cl_X1_appendWhole_6 _ (List.mem_of_getElem? (i := 0) rfl)), List.forall_mem_cons.mpr ⟨(cl_X1_appendWhole_4 _ (List.mem_of_getElem? (i := 2) rfl)), List.forall_mem_cons.mpr ⟨(cl_X1_appendWhole_6 _ (List.mem_of_getElem? (i := 1) rfl)), List.forall_mem_cons.mpr ⟨(cl_X1_appendWhole_6 _ (List.mem_of_getElem? (i := 2) rfl)), List.forall_mem_cons.mpr ⟨(cl_X1_appendWhole_6 _ (List.mem_of_getElem? (i := 3) rfl)), List.forall_mem_cons.mpr ⟨(cl_X1_appendWhole_6 _ (List.mem_of_getElem? (i := 4) rfl)), fun _ h => absurd h List.not_mem_nil⟩⟩⟩⟩⟩⟩⟩⟩⟩⟩⟩⟩⟩⟩⟩⟩⟩⟩⟩⟩⟩⟩⟩⟩) w) ((fun w h => (List.mem_append.mp h).elim ((List.forall_mem_cons.mpr ⟨(cl_X1_appendWhole_6 _ (List.mem_of_getElem? (i := 5) rfl)), List.forall_mem_cons.mpr ⟨(cl_X1_appendWhole_6 _ (List.mem_of_getElem? (i := 6) rfl)), List.forall_mem_cons.mpr ⟨(cl_X1_appendWhole_6 _ (List.mem_of_getElem? (i := 7) rfl)), List.forall_mem_cons.mpr ⟨(cl_X1_appendWhole_6 _ (List.mem_of_getElem? (i := 8) rfl)), List.forall_mem_cons.mpr ⟨(cl_X1_appendWhole_6 _ (List.mem_of_getElem? (i := 9) rfl)), List.forall_mem_cons.mpr ⟨(cl_X1_appendWhole_6 _ (List.mem_of_getElem? (i := 10) rfl)), List.forall_mem_cons.mpr ⟨(cl_X1_appendWhole_6 _ (List.mem_of_getElem? (i := 11) rfl)), List.forall_mem_cons.mpr ⟨(cl_X1_appendWhole_6 _ (List.mem_of_getElem? (i := 12) rfl)), List.forall_mem_cons.mpr ⟨(cl_X1_appendWhole_6 _ (List.mem_of_getElem? (i := 13) rfl)), List.forall_mem_cons.mpr ⟨(cl_X1_appendWhole_6 _ (List.mem_of_getElem? (i := 14) rfl)), List.forall_mem_cons.mpr ⟨(cl_X1_appendWhole_4 _ (List.mem_of_getElem? (i := 8) rfl)), List.forall_mem_cons.mpr ⟨(cl_X1_appendWhole_4 _ (List.mem_of_getElem? (i := 9) rfl)), List.forall_mem_cons.mpr ⟨(cl_X1_appendWhole_4 _ (List.mem_of_getElem? (i := 10) rfl)), List.forall_mem_cons.mpr ⟨(cl_X1_appendWhole_6 _ (List.mem_of_getElem? (i := 15) rfl)), List.forall_mem_cons.mpr ⟨(cl_X1_appendWhole_6 _ (List.mem_of_getElem? (i := 16) rfl)), List.forall_mem_cons.mpr ⟨(cl_X1_appendWhole_4 _ (List.mem_of_getElem? (i := 13) rfl)), List.forall_mem_cons.mpr ⟨(cl_X1_appendWhole_6 _ (List.mem_of_getElem? (i := 17) rfl)), List.forall_mem_cons.mpr ⟨(cl_X1_appendWhole_4 _ (List.mem_of_getElem? (i := 15) rfl)), List.forall_mem_cons.mpr ⟨(cl_X1_appendWhole_6 _ (List.mem_of_getElem? (i := 18) rfl)), List.forall_mem_cons.mpr ⟨(cl_X1_appendWhole_6 _ (List.mem_of_getElem? (i := 19) rfl)), List.forall_mem_cons.mpr ⟨(cl_X1_appendWhole_4 _ (List.mem_of_getElem? (i := 18) rfl)), List.forall_mem_cons.mpr ⟨(cl_X1_appendWhole_6 _ (List.mem_of_getElem? (i := 20) rfl)), List.forall_mem_cons.mpr ⟨(cl_X1_appendWhole_5 _ (List.mem_of_getElem? (i := 1) rfl)), List.forall_mem_cons.mpr ⟨(cl_X1_appendWhole_5 _ (List.mem_of_getElem? (i := 2) rfl)), fun _ h => absurd h List.not_mem_nil⟩⟩⟩⟩⟩⟩⟩⟩⟩⟩⟩⟩⟩⟩⟩⟩⟩⟩⟩⟩⟩⟩⟩⟩) w) ((List.forall_mem_cons.mpr ⟨(cl_X1_appendWhole_5 _ (List.mem_of_getElem? (i := 3) rfl)), List.forall_mem_cons.mpr ⟨(cl_X1_appendWhole_4 _ (List.mem_of_getElem? (i := 4) rfl)), List.forall_mem_cons.mpr ⟨(cl_X1_appendWhole_5 _ (List.mem_of_getElem? (i := 4) rfl)), List.forall_mem_cons.mpr ⟨(cl_X1_appendWhole_5 _ (List.mem_of_getElem? (i := 5) rfl)), List.forall_mem_cons.mpr ⟨(cl_X1_appendWhole_6 _ (List.mem_of_getElem? (i := 21) rfl)), List.forall_mem_cons.mpr ⟨(cl_X1_appendWhole_6 _ (List.mem_of_getElem? (i := 22) rfl)), List.forall_mem_cons.mpr ⟨(cl_X1_appendWhole_6 _ (List.mem_of_getElem? (i := 23) rfl)), List.forall_mem_cons.mpr ⟨(cl_X1_appendWhole_7 _ (List.mem_of_getElem? (i := 0) rfl)), List.forall_mem_cons.mpr ⟨(cl_X1_appendWhole_7 _ (List.mem_of_getElem? (i := 1) rfl)), List.forall_mem_cons.mpr ⟨(cl_X1_appendWhole_7 _ (List.mem_of_getElem? (i := 2) rfl)), List.forall_mem_cons.mpr ⟨(cl_X1_appendWhole_7 _ (List.mem_of_getElem? (i := 3) rfl)), List.forall_mem_cons.mpr ⟨(cl_X1_appendWhole_7 _ (List.mem_of_getElem? (i := 4) rfl)), List.forall_mem_cons.mpr ⟨(cl_X1_appendWhole_7 _ (List.mem_of_getElem? (i := 5) rfl)), List.forall_mem_cons.mpr ⟨(cl_X1_appendWhole_7 _ (List.mem_of_getElem? (i := 6) rfl)), List.forall_mem_cons.mpr ⟨(cl_X1_appendWhole_7 _ (List.mem_of_getElem? (i := 7) rfl)), List.forall_mem_cons.mpr ⟨(cl_X1_appendWhole_7 _ (List.mem_of_getElem? (i := 8) rfl)), fun _ h => absurd h List.not_mem_nil⟩⟩⟩⟩⟩⟩⟩⟩⟩⟩⟩⟩⟩⟩⟩⟩) w)) w)) w)) w)) w) ((cl_X1_appendWhole_8) w)⟩) (by decide +kernel)
set_option maxRecDepth 20000 in
theorem gX1_appendWhole_J4_append_cf468 : GoodIn wsX1_appendWhole (wsV RX1 79 RJ4 yJ4_append_cf468 wsJ4_append_cf468) := goodIn_app (goodIn_sub (List.forall_mem_cons.mpr ⟨(cl_X1_appendWhole_5 _ (List.mem_of_getElem? (i := 6) rfl)), List.forall_mem_cons.mpr ⟨(cl_X1_appendWhole_5 _ (List.mem_of_getElem? (i := 7) rfl)), List.forall_mem_cons.mpr ⟨(cl_X1_appendWhole_5 _ (List.mem_of_getElem? (i := 8) rfl)), List.forall_mem_cons.mpr ⟨(cl_X1_appendWhole_1 _ (List.mem_of_getElem? (i := 5) rfl)), fun _ h => absurd h List.not_mem_nil⟩⟩⟩⟩) (by decide +kernel)) ggX1_appendWhole_J4_append_cf468
noncomputable def dz_p26a_1 : List (Nat × Instr × Nat) := [(0, (.lload_n 2, 1)), (1, (.ldc2_w 94, 3)), (4, (.ldiv, 1)), (5, (.l2i, 1)), (6, (.istore 4, 2)), (8, (.lload_n 2, 1)), (9, (.ldc2_w 94, 3)), (12, (.lrem, 1)), (13, (.l2i, 1)), (14, (.istore 5, 2)), (16, (.iload 4, 2)), (18, (.ifCond .ne 11, 3)), (21, (.aload_n 1, 1)), (22, (.iload 5, 2)), (24, (.invokevirtual 83, 3)), (27, (.pop, 1)), (28, (.return_, 1)), (29, (.aload_n 1, 1)), (30, (.iload 4, 2)), (32, (.invokevirtual 83, 3)), (35, (.pop, 1)), (36, (.ldc 96, 2)), (38, (.istore 6, 2)), (40, (.iload 6, 2)), (42, (.ifCond .le 30, 3)), (45, (.aload_n 1, 1)), (46, (.bipush 48, 2)), (48, (.iload 5, 2)), (50, (.iload 6, 2)), (52, (.idiv, 1)), (53, (.bipush 10, 2)), (55, (.irem, 1)), (56, (.iadd, 1)), (57, (.i2c, 1)), (58, (.invokevirtual 79, 3)), (61, (.pop, 1)), (62, (.iload 6, 2)), (64, (.bipush 10, 2)), (66, (.idiv, 1)), (67, (.istore 6, 2))]
theorem dy_p26a_1 : dz_ok cX1_appendWhole dz_p26a_1 = true := by decide +kernel
theorem dX1_appendWhole_0 : decode cX1_appendWhole 0 = .ok (.lload_n 2, 1) := dz_at (i := 0) dy_p26a_1 rfl
theorem dX1_appendWhole_1 : decode cX1_appendWhole 1 = .ok (.ldc2_w 94, 3) := dz_at (i := 1) dy_p26a_1 rfl
theorem dX1_appendWhole_4 : decode cX1_appendWhole 4 = .ok (.ldiv, 1) := dz_at (i := 2) dy_p26a_1 rfl
theorem dX1_appendWhole_5 : decode cX1_appendWhole 5 = .ok (.l2i, 1) := dz_at (i := 3) dy_p26a_1 rfl
theorem dX1_appendWhole_6 : decode cX1_appendWhole 6 = .ok (.istore 4, 2) := dz_at (i := 4) dy_p26a_1 rfl
theorem dX1_appendWhole_8 : decode cX1_appendWhole 8 = .ok (.lload_n 2, 1) := dz_at (i := 5) dy_p26a_1 rfl
theorem dX1_appendWhole_9 : decode cX1_appendWhole 9 = .ok (.ldc2_w 94, 3) := dz_at (i := 6) dy_p26a_1 rfl
theorem dX1_appendWhole_12 : decode cX1_appendWhole 12 = .ok (.lrem, 1) := dz_at (i := 7) dy_p26a_1 rfl
theorem dX1_appendWhole_13 : decode cX1_appendWhole 13 = .ok (.l2i, 1) := dz_at (i := 8) dy_p26a_1 rfl
theorem dX1_appendWhole_14 : decode cX1_appendWhole 14 = .ok (.istore 5, 2) := dz_at (i := 9) dy_p26a_1 rfl
theorem dX1_appendWhole_16 : decode cX1_appendWhole 16 = .ok (.iload 4, 2) := dz_at (i := 10) dy_p26a_1 rfl
theorem dX1_appendWhole_18 : decode cX1_appendWhole 18 = .ok (.ifCond .ne 11, 3) := dz_at (i := 11) dy_p26a_1 rfl
theorem dX1_appendWhole_21 : decode cX1_appendWhole 21 = .ok (.aload_n 1, 1) := dz_at (i := 12) dy_p26a_1 rfl
theorem dX1_appendWhole_22 : decode cX1_appendWhole 22 = .ok (.iload 5, 2) := dz_at (i := 13) dy_p26a_1 rfl
theorem dX1_appendWhole_24 : decode cX1_appendWhole 24 = .ok (.invokevirtual 83, 3) := dz_at (i := 14) dy_p26a_1 rfl
theorem dX1_appendWhole_27 : decode cX1_appendWhole 27 = .ok (.pop, 1) := dz_at (i := 15) dy_p26a_1 rfl
theorem dX1_appendWhole_28 : decode cX1_appendWhole 28 = .ok (.return_, 1) := dz_at (i := 16) dy_p26a_1 rfl
theorem dX1_appendWhole_29 : decode cX1_appendWhole 29 = .ok (.aload_n 1, 1) := dz_at (i := 17) dy_p26a_1 rfl
theorem dX1_appendWhole_30 : decode cX1_appendWhole 30 = .ok (.iload 4, 2) := dz_at (i := 18) dy_p26a_1 rfl
theorem dX1_appendWhole_32 : decode cX1_appendWhole 32 = .ok (.invokevirtual 83, 3) := dz_at (i := 19) dy_p26a_1 rfl
theorem dX1_appendWhole_35 : decode cX1_appendWhole 35 = .ok (.pop, 1) := dz_at (i := 20) dy_p26a_1 rfl
theorem dX1_appendWhole_36 : decode cX1_appendWhole 36 = .ok (.ldc 96, 2) := dz_at (i := 21) dy_p26a_1 rfl
theorem dX1_appendWhole_38 : decode cX1_appendWhole 38 = .ok (.istore 6, 2) := dz_at (i := 22) dy_p26a_1 rfl
theorem dX1_appendWhole_40 : decode cX1_appendWhole 40 = .ok (.iload 6, 2) := dz_at (i := 23) dy_p26a_1 rfl
theorem dX1_appendWhole_42 : decode cX1_appendWhole 42 = .ok (.ifCond .le 30, 3) := dz_at (i := 24) dy_p26a_1 rfl
theorem dX1_appendWhole_45 : decode cX1_appendWhole 45 = .ok (.aload_n 1, 1) := dz_at (i := 25) dy_p26a_1 rfl
theorem dX1_appendWhole_46 : decode cX1_appendWhole 46 = .ok (.bipush 48, 2) := dz_at (i := 26) dy_p26a_1 rfl
theorem dX1_appendWhole_48 : decode cX1_appendWhole 48 = .ok (.iload 5, 2) := dz_at (i := 27) dy_p26a_1 rfl
theorem dX1_appendWhole_50 : decode cX1_appendWhole 50 = .ok (.iload 6, 2) := dz_at (i := 28) dy_p26a_1 rfl
theorem dX1_appendWhole_52 : decode cX1_appendWhole 52 = .ok (.idiv, 1) := dz_at (i := 29) dy_p26a_1 rfl
theorem dX1_appendWhole_53 : decode cX1_appendWhole 53 = .ok (.bipush 10, 2) := dz_at (i := 30) dy_p26a_1 rfl
theorem dX1_appendWhole_55 : decode cX1_appendWhole 55 = .ok (.irem, 1) := dz_at (i := 31) dy_p26a_1 rfl
theorem dX1_appendWhole_56 : decode cX1_appendWhole 56 = .ok (.iadd, 1) := dz_at (i := 32) dy_p26a_1 rfl
theorem dX1_appendWhole_57 : decode cX1_appendWhole 57 = .ok (.i2c, 1) := dz_at (i := 33) dy_p26a_1 rfl
theorem dX1_appendWhole_58 : decode cX1_appendWhole 58 = .ok (.invokevirtual 79, 3) := dz_at (i := 34) dy_p26a_1 rfl
theorem dX1_appendWhole_61 : decode cX1_appendWhole 61 = .ok (.pop, 1) := dz_at (i := 35) dy_p26a_1 rfl
theorem dX1_appendWhole_62 : decode cX1_appendWhole 62 = .ok (.iload 6, 2) := dz_at (i := 36) dy_p26a_1 rfl
theorem dX1_appendWhole_64 : decode cX1_appendWhole 64 = .ok (.bipush 10, 2) := dz_at (i := 37) dy_p26a_1 rfl
theorem dX1_appendWhole_66 : decode cX1_appendWhole 66 = .ok (.idiv, 1) := dz_at (i := 38) dy_p26a_1 rfl
theorem dX1_appendWhole_67 : decode cX1_appendWhole 67 = .ok (.istore 6, 2) := dz_at (i := 39) dy_p26a_1 rfl
theorem dX1_appendWhole_69 : decode cX1_appendWhole 69 = .ok (.goto (-29), 3) := by decide +kernel
theorem dX1_appendWhole_72 : decode cX1_appendWhole 72 = .ok (.return_, 1) := by decide +kernel
set_option maxHeartbeats 4000000 in
set_option maxRecDepth 100000 in
theorem k_X1_appendWhole (l : Launch) (dC : Nat → ClassId) (dI : Nat → Nat → Nat) (cB : ClassId) (h0 : Nat) (wd : Bool) (h : Nat) (v : Nat) (n : Nat) (mm : Nat) (f : Nat → Int32) (Wn : Nat) (sz N : Nat) (hm : mm = 16 ∨ mm = 34) (hf : sb_Fit f) (hn : n ≤ 18) (hW : Wn < 4503599627370496) : Met l yX1_appendWhole wsX1_appendWhole ({ frames := 6, cells := 10, slots := 340, locals := 188 }) (va_Pc [.ref h0, .ref h, .long (lN Wn)] (xT (dC, dI) xCl [(h0, eW wd), (h, eB v (nI n)), (v, eY cB mm f)] [(cB, .byte)] sz N)) (va_Qv (fun (u : Nat × Nat × Nat × (Nat → Int32)) => (u.2.2.1 = 16 ∨ u.2.2.1 = 34) ∧ u.1 ≤ u.2.2.1 ∧ sb_Fit u.2.2.2) (fun (u : Nat × Nat × Nat × (Nat → Int32)) t => xW (dC, dI) xCl [(h0, eW wd), (h, eB u.2.1 (nI u.1)), (u.2.1, eY cB u.2.2.1 u.2.2.2)] (va_A [(h0, eW wd), (h, eB v (nI n)), (v, eY cB mm f)] sz) t) (va_A [(h0, eW wd), (h, eB v (nI n)), (v, eY cB mm f)] sz)) 10 340 (va_A [(h0, eW wd), (h, eB v (nI n)), (v, eY cB mm f)] sz) := by
  refine Met.ofW (cc := cX1_appendWhole) (maxL := 7) (ret := none) (by decide +kernel) rfl ?_
  intro p e s m args below meth c s₁ B hml hv
  obtain ⟨rfl, ⟨hsz, hP, hK, hD0, hN, hG⟩, hT⟩ := hv
  have hx := B.exec
  have hb := B.bytes
  have hr := B.returns
  have hts := atoms_spec (ws := wsX1_appendWhole) B.pre
  have hown : s.vm.findClass RX1 = some m.cls := findClass_of_methodNamed B.named
  have hlocks := B.notSynchronized
  subst hsz
  have hAN : ∀ q, va_A [(h0, eW wd), (h, eB v (nI n)), (v, eY cB mm f)] s.heap.size q → N ≤ q := xA_N hD0 hN
  have hD := hD0.self (sz := s.heap.size)
  generalize hAe : va_A [(h0, eW wd), (h, eB v (nI n)), (v, eY cB mm f)] s.heap.size = A at hD hAN ⊢
  have hA : ∀ q : Nat, s.heap.size ≤ q → A q := fun q h => by rw [← hAe]; exact Or.inr h
  have hS : va_S A s.heap s.heap [] := va_S.rf
  have hP : va_P (dC, dI) xCl [(h0, eW wd), (h, eB v (nI n)), (v, eY cB mm f)] s.heap := hP
  obtain ⟨hTc, ⟨tO, tT, fO, fT, hTo, hTt, hTa, hTb, hTf, hTg⟩, ⟨adK, adV, hTs, hTr0, hTr1, hTr2⟩, ⟨aE, hTe⟩, hTn⟩ := id hT
  have hl := lv_entry ([.ref h0, .ref h, .long (lN Wn)]) (n := 7) (Nat.le_of_ble_eq_true rfl)
  rw [lg_entry_eq]
  generalize (lg_sl ([.ref h0, .ref h, .long (lN Wn)]) ++ List.replicate (7 - (lg_sl ([.ref h0, .ref h, .long (lN Wn)])).length) Slot.unset).toArray = ls at hl ⊢
  have hl : lv_has ls 7 [(0, .ref h0), (1, .ref h), (2, .long (lN Wn))] := hl
  have hd7 := dg_le7 (w := Wn / 1000000000) (by omega)
  have hd9 := dg_le9 (w := Wn % 1000000000) (by omega)
  refine lv_lload_n hx hb dX1_appendWhole_0 rfl (lv_at hl 2 rfl) ?_
  refine lv_ldc2 (own := RX1) (index := 94) (v := 1000000000) hx hb hown (hts (.constantLong RX1 94 (1000000000)) (by decide +kernel)) dX1_appendWhole_1 ?_
  refine lv_ldiv hx hb dX1_appendWhole_4 (by decide +kernel) ?_
  rw [show (((lN Wn) / 1000000000) : Int64) = (lN (Wn / 1000000000)) from jl_div (a := Wn) (d := 1000000000) (by omega) (by decide +kernel) (by decide +kernel)]
  refine lv_l2i (v := ((lN (Wn / 1000000000)).toInt32)) hx hb dX1_appendWhole_5 rfl ?_
  rw [show (((lN (Wn / 1000000000)).toInt32) : Int32) = (nI (Wn / 1000000000)) from lN_i _]
  refine lv_istore (lv' := [(4, .int (nI (Wn / 1000000000))), (0, .ref h0), (1, .ref h), (2, .long (lN Wn))]) hx hb dX1_appendWhole_6 hl (by decide +kernel) rfl (fun ls hl => ?_)
  refine lv_lload_n hx hb dX1_appendWhole_8 rfl (lv_at hl 3 rfl) ?_
  refine lv_ldc2 (own := RX1) (index := 94) (v := 1000000000) hx hb hown (hts (.constantLong RX1 94 (1000000000)) (by decide +kernel)) dX1_appendWhole_9 ?_
  refine lv_lrem hx hb dX1_appendWhole_12 (by decide +kernel) ?_
  rw [show (((lN Wn) - (lN Wn) / 1000000000 * 1000000000) : Int64) = (lN (Wn % 1000000000)) from jl_rem (a := Wn) (d := 1000000000) (by omega) (by decide +kernel) (by decide +kernel)]
  refine lv_l2i (v := ((lN (Wn % 1000000000)).toInt32)) hx hb dX1_appendWhole_13 rfl ?_
  rw [show (((lN (Wn % 1000000000)).toInt32) : Int32) = (nI (Wn % 1000000000)) from lN_i _]
  refine lv_istore (lv' := [(5, .int (nI (Wn % 1000000000))), (4, .int (nI (Wn / 1000000000))), (0, .ref h0), (1, .ref h), (2, .long (lN Wn))]) hx hb dX1_appendWhole_14 hl (by decide +kernel) rfl (fun ls hl => ?_)
  refine lv_iload hx hb dX1_appendWhole_16 (lv_at hl 1 rfl) ?_
  refine lv_if_ne (tgt := 29) hx hb dX1_appendWhole_18 (by decide +kernel) (fun c_1 => ?_) (fun c_1 => ?_)
  · skip
    refine lv_aload_n hx hb dX1_appendWhole_29 rfl (lv_at hl 3 rfl) ?_
    refine lv_iload hx hb dX1_appendWhole_30 (lv_at hl 1 rfl) ?_
    have hPc := hP.sub (ws' := [(h, eB v (nI n)), (v, eY cB mm f)]) [1, 2] rfl
    have hDc := hD.sub (ws' := [(h, eB v (nI n)), (v, eY cB mm f)]) [1, 2] (by decide +kernel) rfl
    have hKc := hK.sub (tys' := [(cB, .byte)]) [0] rfl
    have hFc := va_free (wc := [(h, eB v (nI n)), (v, eY cB mm f)]) hD hS hA [1, 2] rfl
    refine va_callr (va_runV (As := [.int (nI (Wn / 1000000000))]) (rest := []) ⟨hx, hb, hml, hown, hts⟩ (k_J4_append_bf812 l dC dI cB h v n mm f (Wn / 1000000000) s.heap.size N hm hf (by omega) (by omega)) (cwV 1 hts gX1_appendWhole_J4_append_bf812 rfl rfl rfl (by decide +kernel) ⟨Nat.le_of_ble_eq_true rfl, Nat.le_of_ble_eq_true rfl⟩) (xT.preV hKc hPc hDc hAN (Nat.le_trans hN hS.1) (hG.kept hS hAN) (hT.kept hS hAN) (ci := 1) (q0 := 0) rfl rfl) rfl rfl hl.1 rfl (lv_room (Nat.le_of_ble_eq_true rfl)) dX1_appendWhole_32 ⟨(show _ ≤ 10 by omega), (show _ ≤ 340 by omega)⟩) hS (fun q _ h => hFc q h) hFc (fun u_6 r_5 t H locs ht hvm hw hB hz hk hS => ?_)
    obtain ⟨he_r_5, hP1, hD1⟩ := hB
    rw [ht] at hP1
    obtain ⟨v2_2, m2_3, f2_4⟩ := u_6
    obtain ⟨hP, hD⟩ := va_join (wr := [(h0, eW wd)]) (w1 := [(h, eB v2_2 (nI (n + sb_dg (Wn / 1000000000)))), (v2_2, eY cB m2_3 f2_4)]) hP hD [1, 2] [0] rfl rfl (by decide +kernel) (by decide +kernel) hk hFc hP1 hD1
    have hP : va_P (dC, dI) xCl [(h0, eW wd), (h, eB v2_2 (nI (n + sb_dg (Wn / 1000000000)))), (v2_2, eY cB m2_3 f2_4)] H := hP
    have hD : va_D A [(h0, eW wd), (h, eB v2_2 (nI (n + sb_dg (Wn / 1000000000)))), (v2_2, eY cB m2_3 f2_4)] := hD
    obtain ⟨hm_m2_3, hq_m2_3, hf_m2_3⟩ : (m2_3 = 16 ∨ m2_3 = 34) ∧ n + sb_dg (Wn / 1000000000) ≤ m2_3 ∧ sb_Fit f2_4 := hw
    rw [he_r_5]
    refine lv_pop hx hb dX1_appendWhole_35 rfl ?_
    refine lv_ldc (own := RX1) (index := 96) (v := 100000000) hx hb hown (hts (.constant RX1 96 (100000000)) (by decide +kernel)) dX1_appendWhole_36 ?_
    refine lv_istore (lv' := [(6, .int 100000000), (5, .int (nI (Wn % 1000000000))), (4, .int (nI (Wn / 1000000000))), (0, .ref h0), (1, .ref h), (2, .long (lN Wn))]) hx hb dX1_appendWhole_38 hl (by decide +kernel) rfl (fun ls hl => ?_)
    refine lv_iload hx hb dX1_appendWhole_40 (lv_at hl 0 rfl) ?_
    refine lv_if_le (tgt := 72) hx hb dX1_appendWhole_42 (by decide +kernel) (fun c9 => absurd c9 (by decide +kernel)) (fun _ => ?_)
    refine lv_aload_n hx hb dX1_appendWhole_45 rfl (lv_at hl 4 rfl) ?_
    refine lv_bipush (v := 48) hx hb dX1_appendWhole_46 (by decide +kernel) ?_
    refine lv_iload hx hb dX1_appendWhole_48 (lv_at hl 1 rfl) ?_
    refine lv_iload hx hb dX1_appendWhole_50 (lv_at hl 0 rfl) ?_
    refine lv_idiv hx hb dX1_appendWhole_52 (by decide +kernel) ?_
    rw [show (((nI (Wn % 1000000000)) / 100000000) : Int32) = (nI (Wn % 1000000000 / 100000000)) from (show nI (Wn % 1000000000) / nI 100000000 = _ from pk_div (a := Wn % 1000000000) (d := 100000000) (by omega) (by decide +kernel) (by decide +kernel))]
    refine lv_bipush (v := 10) hx hb dX1_appendWhole_53 (by decide +kernel) ?_
    refine lv_irem hx hb dX1_appendWhole_55 (by decide +kernel) ?_
    rw [show (((nI (Wn % 1000000000 / 100000000)) - (nI (Wn % 1000000000 / 100000000)) / 10 * 10) : Int32) = (nI (Wn % 1000000000 / 100000000 % 10)) from (show nI (Wn % 1000000000 / 100000000) - nI (Wn % 1000000000 / 100000000) / nI 10 * nI 10 = _ from pk_rem (a := Wn % 1000000000 / 100000000) (d := 10) (by omega) (by decide +kernel) (by decide +kernel))]
    refine lv_iadd hx hb dX1_appendWhole_56 ?_
    rw [show ((48 + (nI (Wn % 1000000000 / 100000000 % 10))) : Int32) = (nI (48 + Wn % 1000000000 / 100000000 % 10)) from (show nI 48 + nI (Wn % 1000000000 / 100000000 % 10) = _ from nI_add 48 _)]
    refine lv_i2c (v := (nI (48 + Wn % 1000000000 / 100000000 % 10))) hx hb dX1_appendWhole_57 (jl_chr (by omega)) ?_
    have hPc := hP.sub (ws' := [(h, eB v2_2 (nI (n + sb_dg (Wn / 1000000000)))), (v2_2, eY cB m2_3 f2_4)]) [1, 2] rfl
    have hDc := hD.sub (ws' := [(h, eB v2_2 (nI (n + sb_dg (Wn / 1000000000)))), (v2_2, eY cB m2_3 f2_4)]) [1, 2] (by decide +kernel) rfl
    have hKc := hK.sub (tys' := [(cB, .byte)]) [0] rfl
    have hFc := va_free (wc := [(h, eB v2_2 (nI (n + sb_dg (Wn / 1000000000)))), (v2_2, eY cB m2_3 f2_4)]) hD hS hA [1, 2] rfl
    refine va_callr (va_runV (As := [.int (nI (48 + Wn % 1000000000 / 100000000 % 10))]) (rest := []) ⟨hx, hb, hml, hown, hts⟩ (k_J4_append_cf468 l dC dI cB h v2_2 (n + sb_dg (Wn / 1000000000)) m2_3 f2_4 (48 + Wn % 1000000000 / 100000000 % 10) H.size N hm_m2_3 hf_m2_3 (by omega) (by omega)) (cwV 1 hts gX1_appendWhole_J4_append_cf468 rfl rfl rfl (by decide +kernel) ⟨Nat.le_of_ble_eq_true rfl, Nat.le_of_ble_eq_true rfl⟩) (xT.preV hKc hPc hDc hAN (Nat.le_trans hN hS.1) (hG.kept hS hAN) (hT.kept hS hAN) (ci := 1) (q0 := 0) rfl rfl) rfl rfl hl.1 rfl (lv_room (Nat.le_of_ble_eq_true rfl)) dX1_appendWhole_58 ⟨(show _ ≤ 10 by omega), (show _ ≤ 340 by omega)⟩) hS (fun q _ h => hFc q h) hFc (fun u_11 r_10 t H locs ht hvm hw hB hz hk hS => ?_)
    obtain ⟨he_r_10, hP1, hD1⟩ := hB
    rw [ht] at hP1
    obtain ⟨v2_7, m2_8, f2_9⟩ := u_11
    obtain ⟨hP, hD⟩ := va_join (wr := [(h0, eW wd)]) (w1 := [(h, eB v2_7 (nI ((n + sb_dg (Wn / 1000000000)) + 1))), (v2_7, eY cB m2_8 f2_9)]) hP hD [1, 2] [0] rfl rfl (by decide +kernel) (by decide +kernel) hk hFc hP1 hD1
    have hP : va_P (dC, dI) xCl [(h0, eW wd), (h, eB v2_7 (nI ((n + sb_dg (Wn / 1000000000)) + 1))), (v2_7, eY cB m2_8 f2_9)] H := hP
    have hD : va_D A [(h0, eW wd), (h, eB v2_7 (nI ((n + sb_dg (Wn / 1000000000)) + 1))), (v2_7, eY cB m2_8 f2_9)] := hD
    obtain ⟨hm_m2_8, hq_m2_8, hf_m2_8⟩ : (m2_8 = 16 ∨ m2_8 = 34) ∧ (n + sb_dg (Wn / 1000000000)) + 1 ≤ m2_8 ∧ sb_Fit f2_9 := hw
    rw [he_r_10]
    refine lv_pop hx hb dX1_appendWhole_61 rfl ?_
    refine lv_iload hx hb dX1_appendWhole_62 (lv_at hl 0 rfl) ?_
    refine lv_bipush (v := 10) hx hb dX1_appendWhole_64 (by decide +kernel) ?_
    refine lv_idiv hx hb dX1_appendWhole_66 (by decide +kernel) ?_
    rw [show ((100000000 : Int32) / 10) = 10000000 from by decide]
    refine lv_istore (lv' := [(6, .int 10000000), (5, .int (nI (Wn % 1000000000))), (4, .int (nI (Wn / 1000000000))), (0, .ref h0), (1, .ref h), (2, .long (lN Wn))]) hx hb dX1_appendWhole_67 hl (by decide +kernel) rfl (fun ls hl => ?_)
    refine lv_goto (tgt := 40) hx hb dX1_appendWhole_69 (by decide +kernel) ?_
    refine lv_iload hx hb dX1_appendWhole_40 (lv_at hl 0 rfl) ?_
    refine lv_if_le (tgt := 72) hx hb dX1_appendWhole_42 (by decide +kernel) (fun c9 => absurd c9 (by decide +kernel)) (fun _ => ?_)
    refine lv_aload_n hx hb dX1_appendWhole_45 rfl (lv_at hl 4 rfl) ?_
    refine lv_bipush (v := 48) hx hb dX1_appendWhole_46 (by decide +kernel) ?_
    refine lv_iload hx hb dX1_appendWhole_48 (lv_at hl 1 rfl) ?_
    refine lv_iload hx hb dX1_appendWhole_50 (lv_at hl 0 rfl) ?_
    refine lv_idiv hx hb dX1_appendWhole_52 (by decide +kernel) ?_
    rw [show (((nI (Wn % 1000000000)) / 10000000) : Int32) = (nI (Wn % 1000000000 / 10000000)) from (show nI (Wn % 1000000000) / nI 10000000 = _ from pk_div (a := Wn % 1000000000) (d := 10000000) (by omega) (by decide +kernel) (by decide +kernel))]
    refine lv_bipush (v := 10) hx hb dX1_appendWhole_53 (by decide +kernel) ?_
    refine lv_irem hx hb dX1_appendWhole_55 (by decide +kernel) ?_
    rw [show (((nI (Wn % 1000000000 / 10000000)) - (nI (Wn % 1000000000 / 10000000)) / 10 * 10) : Int32) = (nI (Wn % 1000000000 / 10000000 % 10)) from (show nI (Wn % 1000000000 / 10000000) - nI (Wn % 1000000000 / 10000000) / nI 10 * nI 10 = _ from pk_rem (a := Wn % 1000000000 / 10000000) (d := 10) (by omega) (by decide +kernel) (by decide +kernel))]
    refine lv_iadd hx hb dX1_appendWhole_56 ?_
    rw [show ((48 + (nI (Wn % 1000000000 / 10000000 % 10))) : Int32) = (nI (48 + Wn % 1000000000 / 10000000 % 10)) from (show nI 48 + nI (Wn % 1000000000 / 10000000 % 10) = _ from nI_add 48 _)]
    refine lv_i2c (v := (nI (48 + Wn % 1000000000 / 10000000 % 10))) hx hb dX1_appendWhole_57 (jl_chr (by omega)) ?_
    have hPc := hP.sub (ws' := [(h, eB v2_7 (nI ((n + sb_dg (Wn / 1000000000)) + 1))), (v2_7, eY cB m2_8 f2_9)]) [1, 2] rfl
    have hDc := hD.sub (ws' := [(h, eB v2_7 (nI ((n + sb_dg (Wn / 1000000000)) + 1))), (v2_7, eY cB m2_8 f2_9)]) [1, 2] (by decide +kernel) rfl
    have hKc := hK.sub (tys' := [(cB, .byte)]) [0] rfl
    have hFc := va_free (wc := [(h, eB v2_7 (nI ((n + sb_dg (Wn / 1000000000)) + 1))), (v2_7, eY cB m2_8 f2_9)]) hD hS hA [1, 2] rfl
    refine va_callr (va_runV (As := [.int (nI (48 + Wn % 1000000000 / 10000000 % 10))]) (rest := []) ⟨hx, hb, hml, hown, hts⟩ (k_J4_append_cf468 l dC dI cB h v2_7 ((n + sb_dg (Wn / 1000000000)) + 1) m2_8 f2_9 (48 + Wn % 1000000000 / 10000000 % 10) H.size N hm_m2_8 hf_m2_8 (by omega) (by omega)) (cwV 1 hts gX1_appendWhole_J4_append_cf468 rfl rfl rfl (by decide +kernel) ⟨Nat.le_of_ble_eq_true rfl, Nat.le_of_ble_eq_true rfl⟩) (xT.preV hKc hPc hDc hAN (Nat.le_trans hN hS.1) (hG.kept hS hAN) (hT.kept hS hAN) (ci := 1) (q0 := 0) rfl rfl) rfl rfl hl.1 rfl (lv_room (Nat.le_of_ble_eq_true rfl)) dX1_appendWhole_58 ⟨(show _ ≤ 10 by omega), (show _ ≤ 340 by omega)⟩) hS (fun q _ h => hFc q h) hFc (fun u_16 r_15 t H locs ht hvm hw hB hz hk hS => ?_)
    obtain ⟨he_r_15, hP1, hD1⟩ := hB
    rw [ht] at hP1
    obtain ⟨v2_12, m2_13, f2_14⟩ := u_16
    obtain ⟨hP, hD⟩ := va_join (wr := [(h0, eW wd)]) (w1 := [(h, eB v2_12 (nI (((n + sb_dg (Wn / 1000000000)) + 1) + 1))), (v2_12, eY cB m2_13 f2_14)]) hP hD [1, 2] [0] rfl rfl (by decide +kernel) (by decide +kernel) hk hFc hP1 hD1
    have hP : va_P (dC, dI) xCl [(h0, eW wd), (h, eB v2_12 (nI (((n + sb_dg (Wn / 1000000000)) + 1) + 1))), (v2_12, eY cB m2_13 f2_14)] H := hP
    have hD : va_D A [(h0, eW wd), (h, eB v2_12 (nI (((n + sb_dg (Wn / 1000000000)) + 1) + 1))), (v2_12, eY cB m2_13 f2_14)] := hD
    obtain ⟨hm_m2_13, hq_m2_13, hf_m2_13⟩ : (m2_13 = 16 ∨ m2_13 = 34) ∧ ((n + sb_dg (Wn / 1000000000)) + 1) + 1 ≤ m2_13 ∧ sb_Fit f2_14 := hw
    rw [he_r_15]
    refine lv_pop hx hb dX1_appendWhole_61 rfl ?_
    refine lv_iload hx hb dX1_appendWhole_62 (lv_at hl 0 rfl) ?_
    refine lv_bipush (v := 10) hx hb dX1_appendWhole_64 (by decide +kernel) ?_
    refine lv_idiv hx hb dX1_appendWhole_66 (by decide +kernel) ?_
    rw [show ((10000000 : Int32) / 10) = 1000000 from by decide]
    refine lv_istore (lv' := [(6, .int 1000000), (5, .int (nI (Wn % 1000000000))), (4, .int (nI (Wn / 1000000000))), (0, .ref h0), (1, .ref h), (2, .long (lN Wn))]) hx hb dX1_appendWhole_67 hl (by decide +kernel) rfl (fun ls hl => ?_)
    refine lv_goto (tgt := 40) hx hb dX1_appendWhole_69 (by decide +kernel) ?_
    refine lv_iload hx hb dX1_appendWhole_40 (lv_at hl 0 rfl) ?_
    refine lv_if_le (tgt := 72) hx hb dX1_appendWhole_42 (by decide +kernel) (fun c9 => absurd c9 (by decide +kernel)) (fun _ => ?_)
    refine lv_aload_n hx hb dX1_appendWhole_45 rfl (lv_at hl 4 rfl) ?_
    refine lv_bipush (v := 48) hx hb dX1_appendWhole_46 (by decide +kernel) ?_
    refine lv_iload hx hb dX1_appendWhole_48 (lv_at hl 1 rfl) ?_
    refine lv_iload hx hb dX1_appendWhole_50 (lv_at hl 0 rfl) ?_
    refine lv_idiv hx hb dX1_appendWhole_52 (by decide +kernel) ?_
    rw [show (((nI (Wn % 1000000000)) / 1000000) : Int32) = (nI (Wn % 1000000000 / 1000000)) from (show nI (Wn % 1000000000) / nI 1000000 = _ from pk_div (a := Wn % 1000000000) (d := 1000000) (by omega) (by decide +kernel) (by decide +kernel))]
    refine lv_bipush (v := 10) hx hb dX1_appendWhole_53 (by decide +kernel) ?_
    refine lv_irem hx hb dX1_appendWhole_55 (by decide +kernel) ?_
    rw [show (((nI (Wn % 1000000000 / 1000000)) - (nI (Wn % 1000000000 / 1000000)) / 10 * 10) : Int32) = (nI (Wn % 1000000000 / 1000000 % 10)) from (show nI (Wn % 1000000000 / 1000000) - nI (Wn % 1000000000 / 1000000) / nI 10 * nI 10 = _ from pk_rem (a := Wn % 1000000000 / 1000000) (d := 10) (by omega) (by decide +kernel) (by decide +kernel))]
    refine lv_iadd hx hb dX1_appendWhole_56 ?_
    rw [show ((48 + (nI (Wn % 1000000000 / 1000000 % 10))) : Int32) = (nI (48 + Wn % 1000000000 / 1000000 % 10)) from (show nI 48 + nI (Wn % 1000000000 / 1000000 % 10) = _ from nI_add 48 _)]
    refine lv_i2c (v := (nI (48 + Wn % 1000000000 / 1000000 % 10))) hx hb dX1_appendWhole_57 (jl_chr (by omega)) ?_
    have hPc := hP.sub (ws' := [(h, eB v2_12 (nI (((n + sb_dg (Wn / 1000000000)) + 1) + 1))), (v2_12, eY cB m2_13 f2_14)]) [1, 2] rfl
    have hDc := hD.sub (ws' := [(h, eB v2_12 (nI (((n + sb_dg (Wn / 1000000000)) + 1) + 1))), (v2_12, eY cB m2_13 f2_14)]) [1, 2] (by decide +kernel) rfl
    have hKc := hK.sub (tys' := [(cB, .byte)]) [0] rfl
    have hFc := va_free (wc := [(h, eB v2_12 (nI (((n + sb_dg (Wn / 1000000000)) + 1) + 1))), (v2_12, eY cB m2_13 f2_14)]) hD hS hA [1, 2] rfl
    refine va_callr (va_runV (As := [.int (nI (48 + Wn % 1000000000 / 1000000 % 10))]) (rest := []) ⟨hx, hb, hml, hown, hts⟩ (k_J4_append_cf468 l dC dI cB h v2_12 (((n + sb_dg (Wn / 1000000000)) + 1) + 1) m2_13 f2_14 (48 + Wn % 1000000000 / 1000000 % 10) H.size N hm_m2_13 hf_m2_13 (by omega) (by omega)) (cwV 1 hts gX1_appendWhole_J4_append_cf468 rfl rfl rfl (by decide +kernel) ⟨Nat.le_of_ble_eq_true rfl, Nat.le_of_ble_eq_true rfl⟩) (xT.preV hKc hPc hDc hAN (Nat.le_trans hN hS.1) (hG.kept hS hAN) (hT.kept hS hAN) (ci := 1) (q0 := 0) rfl rfl) rfl rfl hl.1 rfl (lv_room (Nat.le_of_ble_eq_true rfl)) dX1_appendWhole_58 ⟨(show _ ≤ 10 by omega), (show _ ≤ 340 by omega)⟩) hS (fun q _ h => hFc q h) hFc (fun u_21 r_20 t H locs ht hvm hw hB hz hk hS => ?_)
    obtain ⟨he_r_20, hP1, hD1⟩ := hB
    rw [ht] at hP1
    obtain ⟨v2_17, m2_18, f2_19⟩ := u_21
    obtain ⟨hP, hD⟩ := va_join (wr := [(h0, eW wd)]) (w1 := [(h, eB v2_17 (nI ((((n + sb_dg (Wn / 1000000000)) + 1) + 1) + 1))), (v2_17, eY cB m2_18 f2_19)]) hP hD [1, 2] [0] rfl rfl (by decide +kernel) (by decide +kernel) hk hFc hP1 hD1
    have hP : va_P (dC, dI) xCl [(h0, eW wd), (h, eB v2_17 (nI ((((n + sb_dg (Wn / 1000000000)) + 1) + 1) + 1))), (v2_17, eY cB m2_18 f2_19)] H := hP
    have hD : va_D A [(h0, eW wd), (h, eB v2_17 (nI ((((n + sb_dg (Wn / 1000000000)) + 1) + 1) + 1))), (v2_17, eY cB m2_18 f2_19)] := hD
    obtain ⟨hm_m2_18, hq_m2_18, hf_m2_18⟩ : (m2_18 = 16 ∨ m2_18 = 34) ∧ (((n + sb_dg (Wn / 1000000000)) + 1) + 1) + 1 ≤ m2_18 ∧ sb_Fit f2_19 := hw
    rw [he_r_20]
    refine lv_pop hx hb dX1_appendWhole_61 rfl ?_
    refine lv_iload hx hb dX1_appendWhole_62 (lv_at hl 0 rfl) ?_
    refine lv_bipush (v := 10) hx hb dX1_appendWhole_64 (by decide +kernel) ?_
    refine lv_idiv hx hb dX1_appendWhole_66 (by decide +kernel) ?_
    rw [show ((1000000 : Int32) / 10) = 100000 from by decide]
    refine lv_istore (lv' := [(6, .int 100000), (5, .int (nI (Wn % 1000000000))), (4, .int (nI (Wn / 1000000000))), (0, .ref h0), (1, .ref h), (2, .long (lN Wn))]) hx hb dX1_appendWhole_67 hl (by decide +kernel) rfl (fun ls hl => ?_)
    refine lv_goto (tgt := 40) hx hb dX1_appendWhole_69 (by decide +kernel) ?_
    refine lv_iload hx hb dX1_appendWhole_40 (lv_at hl 0 rfl) ?_
    refine lv_if_le (tgt := 72) hx hb dX1_appendWhole_42 (by decide +kernel) (fun c9 => absurd c9 (by decide +kernel)) (fun _ => ?_)
    refine lv_aload_n hx hb dX1_appendWhole_45 rfl (lv_at hl 4 rfl) ?_
    refine lv_bipush (v := 48) hx hb dX1_appendWhole_46 (by decide +kernel) ?_
    refine lv_iload hx hb dX1_appendWhole_48 (lv_at hl 1 rfl) ?_
    refine lv_iload hx hb dX1_appendWhole_50 (lv_at hl 0 rfl) ?_
    refine lv_idiv hx hb dX1_appendWhole_52 (by decide +kernel) ?_
    rw [show (((nI (Wn % 1000000000)) / 100000) : Int32) = (nI (Wn % 1000000000 / 100000)) from (show nI (Wn % 1000000000) / nI 100000 = _ from pk_div (a := Wn % 1000000000) (d := 100000) (by omega) (by decide +kernel) (by decide +kernel))]
    refine lv_bipush (v := 10) hx hb dX1_appendWhole_53 (by decide +kernel) ?_
    refine lv_irem hx hb dX1_appendWhole_55 (by decide +kernel) ?_
    rw [show (((nI (Wn % 1000000000 / 100000)) - (nI (Wn % 1000000000 / 100000)) / 10 * 10) : Int32) = (nI (Wn % 1000000000 / 100000 % 10)) from (show nI (Wn % 1000000000 / 100000) - nI (Wn % 1000000000 / 100000) / nI 10 * nI 10 = _ from pk_rem (a := Wn % 1000000000 / 100000) (d := 10) (by omega) (by decide +kernel) (by decide +kernel))]
    refine lv_iadd hx hb dX1_appendWhole_56 ?_
    rw [show ((48 + (nI (Wn % 1000000000 / 100000 % 10))) : Int32) = (nI (48 + Wn % 1000000000 / 100000 % 10)) from (show nI 48 + nI (Wn % 1000000000 / 100000 % 10) = _ from nI_add 48 _)]
    refine lv_i2c (v := (nI (48 + Wn % 1000000000 / 100000 % 10))) hx hb dX1_appendWhole_57 (jl_chr (by omega)) ?_
    have hPc := hP.sub (ws' := [(h, eB v2_17 (nI ((((n + sb_dg (Wn / 1000000000)) + 1) + 1) + 1))), (v2_17, eY cB m2_18 f2_19)]) [1, 2] rfl
    have hDc := hD.sub (ws' := [(h, eB v2_17 (nI ((((n + sb_dg (Wn / 1000000000)) + 1) + 1) + 1))), (v2_17, eY cB m2_18 f2_19)]) [1, 2] (by decide +kernel) rfl
    have hKc := hK.sub (tys' := [(cB, .byte)]) [0] rfl
    have hFc := va_free (wc := [(h, eB v2_17 (nI ((((n + sb_dg (Wn / 1000000000)) + 1) + 1) + 1))), (v2_17, eY cB m2_18 f2_19)]) hD hS hA [1, 2] rfl
    refine va_callr (va_runV (As := [.int (nI (48 + Wn % 1000000000 / 100000 % 10))]) (rest := []) ⟨hx, hb, hml, hown, hts⟩ (k_J4_append_cf468 l dC dI cB h v2_17 ((((n + sb_dg (Wn / 1000000000)) + 1) + 1) + 1) m2_18 f2_19 (48 + Wn % 1000000000 / 100000 % 10) H.size N hm_m2_18 hf_m2_18 (by omega) (by omega)) (cwV 1 hts gX1_appendWhole_J4_append_cf468 rfl rfl rfl (by decide +kernel) ⟨Nat.le_of_ble_eq_true rfl, Nat.le_of_ble_eq_true rfl⟩) (xT.preV hKc hPc hDc hAN (Nat.le_trans hN hS.1) (hG.kept hS hAN) (hT.kept hS hAN) (ci := 1) (q0 := 0) rfl rfl) rfl rfl hl.1 rfl (lv_room (Nat.le_of_ble_eq_true rfl)) dX1_appendWhole_58 ⟨(show _ ≤ 10 by omega), (show _ ≤ 340 by omega)⟩) hS (fun q _ h => hFc q h) hFc (fun u_26 r_25 t H locs ht hvm hw hB hz hk hS => ?_)
    obtain ⟨he_r_25, hP1, hD1⟩ := hB
    rw [ht] at hP1
    obtain ⟨v2_22, m2_23, f2_24⟩ := u_26
    obtain ⟨hP, hD⟩ := va_join (wr := [(h0, eW wd)]) (w1 := [(h, eB v2_22 (nI (((((n + sb_dg (Wn / 1000000000)) + 1) + 1) + 1) + 1))), (v2_22, eY cB m2_23 f2_24)]) hP hD [1, 2] [0] rfl rfl (by decide +kernel) (by decide +kernel) hk hFc hP1 hD1
    have hP : va_P (dC, dI) xCl [(h0, eW wd), (h, eB v2_22 (nI (((((n + sb_dg (Wn / 1000000000)) + 1) + 1) + 1) + 1))), (v2_22, eY cB m2_23 f2_24)] H := hP
    have hD : va_D A [(h0, eW wd), (h, eB v2_22 (nI (((((n + sb_dg (Wn / 1000000000)) + 1) + 1) + 1) + 1))), (v2_22, eY cB m2_23 f2_24)] := hD
    obtain ⟨hm_m2_23, hq_m2_23, hf_m2_23⟩ : (m2_23 = 16 ∨ m2_23 = 34) ∧ ((((n + sb_dg (Wn / 1000000000)) + 1) + 1) + 1) + 1 ≤ m2_23 ∧ sb_Fit f2_24 := hw
    rw [he_r_25]
    refine lv_pop hx hb dX1_appendWhole_61 rfl ?_
    refine lv_iload hx hb dX1_appendWhole_62 (lv_at hl 0 rfl) ?_
    refine lv_bipush (v := 10) hx hb dX1_appendWhole_64 (by decide +kernel) ?_
    refine lv_idiv hx hb dX1_appendWhole_66 (by decide +kernel) ?_
    rw [show ((100000 : Int32) / 10) = 10000 from by decide]
    refine lv_istore (lv' := [(6, .int 10000), (5, .int (nI (Wn % 1000000000))), (4, .int (nI (Wn / 1000000000))), (0, .ref h0), (1, .ref h), (2, .long (lN Wn))]) hx hb dX1_appendWhole_67 hl (by decide +kernel) rfl (fun ls hl => ?_)
    refine lv_goto (tgt := 40) hx hb dX1_appendWhole_69 (by decide +kernel) ?_
    refine lv_iload hx hb dX1_appendWhole_40 (lv_at hl 0 rfl) ?_
    refine lv_if_le (tgt := 72) hx hb dX1_appendWhole_42 (by decide +kernel) (fun c9 => absurd c9 (by decide +kernel)) (fun _ => ?_)
    refine lv_aload_n hx hb dX1_appendWhole_45 rfl (lv_at hl 4 rfl) ?_
    refine lv_bipush (v := 48) hx hb dX1_appendWhole_46 (by decide +kernel) ?_
    refine lv_iload hx hb dX1_appendWhole_48 (lv_at hl 1 rfl) ?_
    refine lv_iload hx hb dX1_appendWhole_50 (lv_at hl 0 rfl) ?_
    refine lv_idiv hx hb dX1_appendWhole_52 (by decide +kernel) ?_
    rw [show (((nI (Wn % 1000000000)) / 10000) : Int32) = (nI (Wn % 1000000000 / 10000)) from (show nI (Wn % 1000000000) / nI 10000 = _ from pk_div (a := Wn % 1000000000) (d := 10000) (by omega) (by decide +kernel) (by decide +kernel))]
    refine lv_bipush (v := 10) hx hb dX1_appendWhole_53 (by decide +kernel) ?_
    refine lv_irem hx hb dX1_appendWhole_55 (by decide +kernel) ?_
    rw [show (((nI (Wn % 1000000000 / 10000)) - (nI (Wn % 1000000000 / 10000)) / 10 * 10) : Int32) = (nI (Wn % 1000000000 / 10000 % 10)) from (show nI (Wn % 1000000000 / 10000) - nI (Wn % 1000000000 / 10000) / nI 10 * nI 10 = _ from pk_rem (a := Wn % 1000000000 / 10000) (d := 10) (by omega) (by decide +kernel) (by decide +kernel))]
    refine lv_iadd hx hb dX1_appendWhole_56 ?_
    rw [show ((48 + (nI (Wn % 1000000000 / 10000 % 10))) : Int32) = (nI (48 + Wn % 1000000000 / 10000 % 10)) from (show nI 48 + nI (Wn % 1000000000 / 10000 % 10) = _ from nI_add 48 _)]
    refine lv_i2c (v := (nI (48 + Wn % 1000000000 / 10000 % 10))) hx hb dX1_appendWhole_57 (jl_chr (by omega)) ?_
    have hPc := hP.sub (ws' := [(h, eB v2_22 (nI (((((n + sb_dg (Wn / 1000000000)) + 1) + 1) + 1) + 1))), (v2_22, eY cB m2_23 f2_24)]) [1, 2] rfl
    have hDc := hD.sub (ws' := [(h, eB v2_22 (nI (((((n + sb_dg (Wn / 1000000000)) + 1) + 1) + 1) + 1))), (v2_22, eY cB m2_23 f2_24)]) [1, 2] (by decide +kernel) rfl
    have hKc := hK.sub (tys' := [(cB, .byte)]) [0] rfl
    have hFc := va_free (wc := [(h, eB v2_22 (nI (((((n + sb_dg (Wn / 1000000000)) + 1) + 1) + 1) + 1))), (v2_22, eY cB m2_23 f2_24)]) hD hS hA [1, 2] rfl
    refine va_callr (va_runV (As := [.int (nI (48 + Wn % 1000000000 / 10000 % 10))]) (rest := []) ⟨hx, hb, hml, hown, hts⟩ (k_J4_append_cf468 l dC dI cB h v2_22 (((((n + sb_dg (Wn / 1000000000)) + 1) + 1) + 1) + 1) m2_23 f2_24 (48 + Wn % 1000000000 / 10000 % 10) H.size N hm_m2_23 hf_m2_23 (by omega) (by omega)) (cwV 1 hts gX1_appendWhole_J4_append_cf468 rfl rfl rfl (by decide +kernel) ⟨Nat.le_of_ble_eq_true rfl, Nat.le_of_ble_eq_true rfl⟩) (xT.preV hKc hPc hDc hAN (Nat.le_trans hN hS.1) (hG.kept hS hAN) (hT.kept hS hAN) (ci := 1) (q0 := 0) rfl rfl) rfl rfl hl.1 rfl (lv_room (Nat.le_of_ble_eq_true rfl)) dX1_appendWhole_58 ⟨(show _ ≤ 10 by omega), (show _ ≤ 340 by omega)⟩) hS (fun q _ h => hFc q h) hFc (fun u_31 r_30 t H locs ht hvm hw hB hz hk hS => ?_)
    obtain ⟨he_r_30, hP1, hD1⟩ := hB
    rw [ht] at hP1
    obtain ⟨v2_27, m2_28, f2_29⟩ := u_31
    obtain ⟨hP, hD⟩ := va_join (wr := [(h0, eW wd)]) (w1 := [(h, eB v2_27 (nI ((((((n + sb_dg (Wn / 1000000000)) + 1) + 1) + 1) + 1) + 1))), (v2_27, eY cB m2_28 f2_29)]) hP hD [1, 2] [0] rfl rfl (by decide +kernel) (by decide +kernel) hk hFc hP1 hD1
    have hP : va_P (dC, dI) xCl [(h0, eW wd), (h, eB v2_27 (nI ((((((n + sb_dg (Wn / 1000000000)) + 1) + 1) + 1) + 1) + 1))), (v2_27, eY cB m2_28 f2_29)] H := hP
    have hD : va_D A [(h0, eW wd), (h, eB v2_27 (nI ((((((n + sb_dg (Wn / 1000000000)) + 1) + 1) + 1) + 1) + 1))), (v2_27, eY cB m2_28 f2_29)] := hD
    obtain ⟨hm_m2_28, hq_m2_28, hf_m2_28⟩ : (m2_28 = 16 ∨ m2_28 = 34) ∧ (((((n + sb_dg (Wn / 1000000000)) + 1) + 1) + 1) + 1) + 1 ≤ m2_28 ∧ sb_Fit f2_29 := hw
    rw [he_r_30]
    refine lv_pop hx hb dX1_appendWhole_61 rfl ?_
    refine lv_iload hx hb dX1_appendWhole_62 (lv_at hl 0 rfl) ?_
    refine lv_bipush (v := 10) hx hb dX1_appendWhole_64 (by decide +kernel) ?_
    refine lv_idiv hx hb dX1_appendWhole_66 (by decide +kernel) ?_
    rw [show ((10000 : Int32) / 10) = 1000 from by decide]
    refine lv_istore (lv' := [(6, .int 1000), (5, .int (nI (Wn % 1000000000))), (4, .int (nI (Wn / 1000000000))), (0, .ref h0), (1, .ref h), (2, .long (lN Wn))]) hx hb dX1_appendWhole_67 hl (by decide +kernel) rfl (fun ls hl => ?_)
    refine lv_goto (tgt := 40) hx hb dX1_appendWhole_69 (by decide +kernel) ?_
    refine lv_iload hx hb dX1_appendWhole_40 (lv_at hl 0 rfl) ?_
    refine lv_if_le (tgt := 72) hx hb dX1_appendWhole_42 (by decide +kernel) (fun c9 => absurd c9 (by decide +kernel)) (fun _ => ?_)
    refine lv_aload_n hx hb dX1_appendWhole_45 rfl (lv_at hl 4 rfl) ?_
    refine lv_bipush (v := 48) hx hb dX1_appendWhole_46 (by decide +kernel) ?_
    refine lv_iload hx hb dX1_appendWhole_48 (lv_at hl 1 rfl) ?_
    refine lv_iload hx hb dX1_appendWhole_50 (lv_at hl 0 rfl) ?_
    refine lv_idiv hx hb dX1_appendWhole_52 (by decide +kernel) ?_
    rw [show (((nI (Wn % 1000000000)) / 1000) : Int32) = (nI (Wn % 1000000000 / 1000)) from (show nI (Wn % 1000000000) / nI 1000 = _ from pk_div (a := Wn % 1000000000) (d := 1000) (by omega) (by decide +kernel) (by decide +kernel))]
    refine lv_bipush (v := 10) hx hb dX1_appendWhole_53 (by decide +kernel) ?_
    refine lv_irem hx hb dX1_appendWhole_55 (by decide +kernel) ?_
    rw [show (((nI (Wn % 1000000000 / 1000)) - (nI (Wn % 1000000000 / 1000)) / 10 * 10) : Int32) = (nI (Wn % 1000000000 / 1000 % 10)) from (show nI (Wn % 1000000000 / 1000) - nI (Wn % 1000000000 / 1000) / nI 10 * nI 10 = _ from pk_rem (a := Wn % 1000000000 / 1000) (d := 10) (by omega) (by decide +kernel) (by decide +kernel))]
    refine lv_iadd hx hb dX1_appendWhole_56 ?_
    rw [show ((48 + (nI (Wn % 1000000000 / 1000 % 10))) : Int32) = (nI (48 + Wn % 1000000000 / 1000 % 10)) from (show nI 48 + nI (Wn % 1000000000 / 1000 % 10) = _ from nI_add 48 _)]
    refine lv_i2c (v := (nI (48 + Wn % 1000000000 / 1000 % 10))) hx hb dX1_appendWhole_57 (jl_chr (by omega)) ?_
    have hPc := hP.sub (ws' := [(h, eB v2_27 (nI ((((((n + sb_dg (Wn / 1000000000)) + 1) + 1) + 1) + 1) + 1))), (v2_27, eY cB m2_28 f2_29)]) [1, 2] rfl
    have hDc := hD.sub (ws' := [(h, eB v2_27 (nI ((((((n + sb_dg (Wn / 1000000000)) + 1) + 1) + 1) + 1) + 1))), (v2_27, eY cB m2_28 f2_29)]) [1, 2] (by decide +kernel) rfl
    have hKc := hK.sub (tys' := [(cB, .byte)]) [0] rfl
    have hFc := va_free (wc := [(h, eB v2_27 (nI ((((((n + sb_dg (Wn / 1000000000)) + 1) + 1) + 1) + 1) + 1))), (v2_27, eY cB m2_28 f2_29)]) hD hS hA [1, 2] rfl
    refine va_callr (va_runV (As := [.int (nI (48 + Wn % 1000000000 / 1000 % 10))]) (rest := []) ⟨hx, hb, hml, hown, hts⟩ (k_J4_append_cf468 l dC dI cB h v2_27 ((((((n + sb_dg (Wn / 1000000000)) + 1) + 1) + 1) + 1) + 1) m2_28 f2_29 (48 + Wn % 1000000000 / 1000 % 10) H.size N hm_m2_28 hf_m2_28 (by omega) (by omega)) (cwV 1 hts gX1_appendWhole_J4_append_cf468 rfl rfl rfl (by decide +kernel) ⟨Nat.le_of_ble_eq_true rfl, Nat.le_of_ble_eq_true rfl⟩) (xT.preV hKc hPc hDc hAN (Nat.le_trans hN hS.1) (hG.kept hS hAN) (hT.kept hS hAN) (ci := 1) (q0 := 0) rfl rfl) rfl rfl hl.1 rfl (lv_room (Nat.le_of_ble_eq_true rfl)) dX1_appendWhole_58 ⟨(show _ ≤ 10 by omega), (show _ ≤ 340 by omega)⟩) hS (fun q _ h => hFc q h) hFc (fun u_36 r_35 t H locs ht hvm hw hB hz hk hS => ?_)
    obtain ⟨he_r_35, hP1, hD1⟩ := hB
    rw [ht] at hP1
    obtain ⟨v2_32, m2_33, f2_34⟩ := u_36
    obtain ⟨hP, hD⟩ := va_join (wr := [(h0, eW wd)]) (w1 := [(h, eB v2_32 (nI (((((((n + sb_dg (Wn / 1000000000)) + 1) + 1) + 1) + 1) + 1) + 1))), (v2_32, eY cB m2_33 f2_34)]) hP hD [1, 2] [0] rfl rfl (by decide +kernel) (by decide +kernel) hk hFc hP1 hD1
    have hP : va_P (dC, dI) xCl [(h0, eW wd), (h, eB v2_32 (nI (((((((n + sb_dg (Wn / 1000000000)) + 1) + 1) + 1) + 1) + 1) + 1))), (v2_32, eY cB m2_33 f2_34)] H := hP
    have hD : va_D A [(h0, eW wd), (h, eB v2_32 (nI (((((((n + sb_dg (Wn / 1000000000)) + 1) + 1) + 1) + 1) + 1) + 1))), (v2_32, eY cB m2_33 f2_34)] := hD
    obtain ⟨hm_m2_33, hq_m2_33, hf_m2_33⟩ : (m2_33 = 16 ∨ m2_33 = 34) ∧ ((((((n + sb_dg (Wn / 1000000000)) + 1) + 1) + 1) + 1) + 1) + 1 ≤ m2_33 ∧ sb_Fit f2_34 := hw
    rw [he_r_35]
    refine lv_pop hx hb dX1_appendWhole_61 rfl ?_
    refine lv_iload hx hb dX1_appendWhole_62 (lv_at hl 0 rfl) ?_
    refine lv_bipush (v := 10) hx hb dX1_appendWhole_64 (by decide +kernel) ?_
    refine lv_idiv hx hb dX1_appendWhole_66 (by decide +kernel) ?_
    rw [show ((1000 : Int32) / 10) = 100 from by decide]
    refine lv_istore (lv' := [(6, .int 100), (5, .int (nI (Wn % 1000000000))), (4, .int (nI (Wn / 1000000000))), (0, .ref h0), (1, .ref h), (2, .long (lN Wn))]) hx hb dX1_appendWhole_67 hl (by decide +kernel) rfl (fun ls hl => ?_)
    refine lv_goto (tgt := 40) hx hb dX1_appendWhole_69 (by decide +kernel) ?_
    refine lv_iload hx hb dX1_appendWhole_40 (lv_at hl 0 rfl) ?_
    refine lv_if_le (tgt := 72) hx hb dX1_appendWhole_42 (by decide +kernel) (fun c9 => absurd c9 (by decide +kernel)) (fun _ => ?_)
    refine lv_aload_n hx hb dX1_appendWhole_45 rfl (lv_at hl 4 rfl) ?_
    refine lv_bipush (v := 48) hx hb dX1_appendWhole_46 (by decide +kernel) ?_
    refine lv_iload hx hb dX1_appendWhole_48 (lv_at hl 1 rfl) ?_
    refine lv_iload hx hb dX1_appendWhole_50 (lv_at hl 0 rfl) ?_
    refine lv_idiv hx hb dX1_appendWhole_52 (by decide +kernel) ?_
    rw [show (((nI (Wn % 1000000000)) / 100) : Int32) = (nI (Wn % 1000000000 / 100)) from (show nI (Wn % 1000000000) / nI 100 = _ from pk_div (a := Wn % 1000000000) (d := 100) (by omega) (by decide +kernel) (by decide +kernel))]
    refine lv_bipush (v := 10) hx hb dX1_appendWhole_53 (by decide +kernel) ?_
    refine lv_irem hx hb dX1_appendWhole_55 (by decide +kernel) ?_
    rw [show (((nI (Wn % 1000000000 / 100)) - (nI (Wn % 1000000000 / 100)) / 10 * 10) : Int32) = (nI (Wn % 1000000000 / 100 % 10)) from (show nI (Wn % 1000000000 / 100) - nI (Wn % 1000000000 / 100) / nI 10 * nI 10 = _ from pk_rem (a := Wn % 1000000000 / 100) (d := 10) (by omega) (by decide +kernel) (by decide +kernel))]
    refine lv_iadd hx hb dX1_appendWhole_56 ?_
    rw [show ((48 + (nI (Wn % 1000000000 / 100 % 10))) : Int32) = (nI (48 + Wn % 1000000000 / 100 % 10)) from (show nI 48 + nI (Wn % 1000000000 / 100 % 10) = _ from nI_add 48 _)]
    refine lv_i2c (v := (nI (48 + Wn % 1000000000 / 100 % 10))) hx hb dX1_appendWhole_57 (jl_chr (by omega)) ?_
    have hPc := hP.sub (ws' := [(h, eB v2_32 (nI (((((((n + sb_dg (Wn / 1000000000)) + 1) + 1) + 1) + 1) + 1) + 1))), (v2_32, eY cB m2_33 f2_34)]) [1, 2] rfl
    have hDc := hD.sub (ws' := [(h, eB v2_32 (nI (((((((n + sb_dg (Wn / 1000000000)) + 1) + 1) + 1) + 1) + 1) + 1))), (v2_32, eY cB m2_33 f2_34)]) [1, 2] (by decide +kernel) rfl
    have hKc := hK.sub (tys' := [(cB, .byte)]) [0] rfl
    have hFc := va_free (wc := [(h, eB v2_32 (nI (((((((n + sb_dg (Wn / 1000000000)) + 1) + 1) + 1) + 1) + 1) + 1))), (v2_32, eY cB m2_33 f2_34)]) hD hS hA [1, 2] rfl
    refine va_callr (va_runV (As := [.int (nI (48 + Wn % 1000000000 / 100 % 10))]) (rest := []) ⟨hx, hb, hml, hown, hts⟩ (k_J4_append_cf468 l dC dI cB h v2_32 (((((((n + sb_dg (Wn / 1000000000)) + 1) + 1) + 1) + 1) + 1) + 1) m2_33 f2_34 (48 + Wn % 1000000000 / 100 % 10) H.size N hm_m2_33 hf_m2_33 (by omega) (by omega)) (cwV 1 hts gX1_appendWhole_J4_append_cf468 rfl rfl rfl (by decide +kernel) ⟨Nat.le_of_ble_eq_true rfl, Nat.le_of_ble_eq_true rfl⟩) (xT.preV hKc hPc hDc hAN (Nat.le_trans hN hS.1) (hG.kept hS hAN) (hT.kept hS hAN) (ci := 1) (q0 := 0) rfl rfl) rfl rfl hl.1 rfl (lv_room (Nat.le_of_ble_eq_true rfl)) dX1_appendWhole_58 ⟨(show _ ≤ 10 by omega), (show _ ≤ 340 by omega)⟩) hS (fun q _ h => hFc q h) hFc (fun u_41 r_40 t H locs ht hvm hw hB hz hk hS => ?_)
    obtain ⟨he_r_40, hP1, hD1⟩ := hB
    rw [ht] at hP1
    obtain ⟨v2_37, m2_38, f2_39⟩ := u_41
    obtain ⟨hP, hD⟩ := va_join (wr := [(h0, eW wd)]) (w1 := [(h, eB v2_37 (nI ((((((((n + sb_dg (Wn / 1000000000)) + 1) + 1) + 1) + 1) + 1) + 1) + 1))), (v2_37, eY cB m2_38 f2_39)]) hP hD [1, 2] [0] rfl rfl (by decide +kernel) (by decide +kernel) hk hFc hP1 hD1
    have hP : va_P (dC, dI) xCl [(h0, eW wd), (h, eB v2_37 (nI ((((((((n + sb_dg (Wn / 1000000000)) + 1) + 1) + 1) + 1) + 1) + 1) + 1))), (v2_37, eY cB m2_38 f2_39)] H := hP
    have hD : va_D A [(h0, eW wd), (h, eB v2_37 (nI ((((((((n + sb_dg (Wn / 1000000000)) + 1) + 1) + 1) + 1) + 1) + 1) + 1))), (v2_37, eY cB m2_38 f2_39)] := hD
    obtain ⟨hm_m2_38, hq_m2_38, hf_m2_38⟩ : (m2_38 = 16 ∨ m2_38 = 34) ∧ (((((((n + sb_dg (Wn / 1000000000)) + 1) + 1) + 1) + 1) + 1) + 1) + 1 ≤ m2_38 ∧ sb_Fit f2_39 := hw
    rw [he_r_40]
    refine lv_pop hx hb dX1_appendWhole_61 rfl ?_
    refine lv_iload hx hb dX1_appendWhole_62 (lv_at hl 0 rfl) ?_
    refine lv_bipush (v := 10) hx hb dX1_appendWhole_64 (by decide +kernel) ?_
    refine lv_idiv hx hb dX1_appendWhole_66 (by decide +kernel) ?_
    rw [show ((100 : Int32) / 10) = 10 from by decide]
    refine lv_istore (lv' := [(6, .int 10), (5, .int (nI (Wn % 1000000000))), (4, .int (nI (Wn / 1000000000))), (0, .ref h0), (1, .ref h), (2, .long (lN Wn))]) hx hb dX1_appendWhole_67 hl (by decide +kernel) rfl (fun ls hl => ?_)
    refine lv_goto (tgt := 40) hx hb dX1_appendWhole_69 (by decide +kernel) ?_
    refine lv_iload hx hb dX1_appendWhole_40 (lv_at hl 0 rfl) ?_
    refine lv_if_le (tgt := 72) hx hb dX1_appendWhole_42 (by decide +kernel) (fun c9 => absurd c9 (by decide +kernel)) (fun _ => ?_)
    refine lv_aload_n hx hb dX1_appendWhole_45 rfl (lv_at hl 4 rfl) ?_
    refine lv_bipush (v := 48) hx hb dX1_appendWhole_46 (by decide +kernel) ?_
    refine lv_iload hx hb dX1_appendWhole_48 (lv_at hl 1 rfl) ?_
    refine lv_iload hx hb dX1_appendWhole_50 (lv_at hl 0 rfl) ?_
    refine lv_idiv hx hb dX1_appendWhole_52 (by decide +kernel) ?_
    rw [show (((nI (Wn % 1000000000)) / 10) : Int32) = (nI (Wn % 1000000000 / 10)) from (show nI (Wn % 1000000000) / nI 10 = _ from pk_div (a := Wn % 1000000000) (d := 10) (by omega) (by decide +kernel) (by decide +kernel))]
    refine lv_bipush (v := 10) hx hb dX1_appendWhole_53 (by decide +kernel) ?_
    refine lv_irem hx hb dX1_appendWhole_55 (by decide +kernel) ?_
    rw [show (((nI (Wn % 1000000000 / 10)) - (nI (Wn % 1000000000 / 10)) / 10 * 10) : Int32) = (nI (Wn % 1000000000 / 10 % 10)) from (show nI (Wn % 1000000000 / 10) - nI (Wn % 1000000000 / 10) / nI 10 * nI 10 = _ from pk_rem (a := Wn % 1000000000 / 10) (d := 10) (by omega) (by decide +kernel) (by decide +kernel))]
    refine lv_iadd hx hb dX1_appendWhole_56 ?_
    rw [show ((48 + (nI (Wn % 1000000000 / 10 % 10))) : Int32) = (nI (48 + Wn % 1000000000 / 10 % 10)) from (show nI 48 + nI (Wn % 1000000000 / 10 % 10) = _ from nI_add 48 _)]
    refine lv_i2c (v := (nI (48 + Wn % 1000000000 / 10 % 10))) hx hb dX1_appendWhole_57 (jl_chr (by omega)) ?_
    have hPc := hP.sub (ws' := [(h, eB v2_37 (nI ((((((((n + sb_dg (Wn / 1000000000)) + 1) + 1) + 1) + 1) + 1) + 1) + 1))), (v2_37, eY cB m2_38 f2_39)]) [1, 2] rfl
    have hDc := hD.sub (ws' := [(h, eB v2_37 (nI ((((((((n + sb_dg (Wn / 1000000000)) + 1) + 1) + 1) + 1) + 1) + 1) + 1))), (v2_37, eY cB m2_38 f2_39)]) [1, 2] (by decide +kernel) rfl
    have hKc := hK.sub (tys' := [(cB, .byte)]) [0] rfl
    have hFc := va_free (wc := [(h, eB v2_37 (nI ((((((((n + sb_dg (Wn / 1000000000)) + 1) + 1) + 1) + 1) + 1) + 1) + 1))), (v2_37, eY cB m2_38 f2_39)]) hD hS hA [1, 2] rfl
    refine va_callr (va_runV (As := [.int (nI (48 + Wn % 1000000000 / 10 % 10))]) (rest := []) ⟨hx, hb, hml, hown, hts⟩ (k_J4_append_cf468 l dC dI cB h v2_37 ((((((((n + sb_dg (Wn / 1000000000)) + 1) + 1) + 1) + 1) + 1) + 1) + 1) m2_38 f2_39 (48 + Wn % 1000000000 / 10 % 10) H.size N hm_m2_38 hf_m2_38 (by omega) (by omega)) (cwV 1 hts gX1_appendWhole_J4_append_cf468 rfl rfl rfl (by decide +kernel) ⟨Nat.le_of_ble_eq_true rfl, Nat.le_of_ble_eq_true rfl⟩) (xT.preV hKc hPc hDc hAN (Nat.le_trans hN hS.1) (hG.kept hS hAN) (hT.kept hS hAN) (ci := 1) (q0 := 0) rfl rfl) rfl rfl hl.1 rfl (lv_room (Nat.le_of_ble_eq_true rfl)) dX1_appendWhole_58 ⟨(show _ ≤ 10 by omega), (show _ ≤ 340 by omega)⟩) hS (fun q _ h => hFc q h) hFc (fun u_46 r_45 t H locs ht hvm hw hB hz hk hS => ?_)
    obtain ⟨he_r_45, hP1, hD1⟩ := hB
    rw [ht] at hP1
    obtain ⟨v2_42, m2_43, f2_44⟩ := u_46
    obtain ⟨hP, hD⟩ := va_join (wr := [(h0, eW wd)]) (w1 := [(h, eB v2_42 (nI (((((((((n + sb_dg (Wn / 1000000000)) + 1) + 1) + 1) + 1) + 1) + 1) + 1) + 1))), (v2_42, eY cB m2_43 f2_44)]) hP hD [1, 2] [0] rfl rfl (by decide +kernel) (by decide +kernel) hk hFc hP1 hD1
    have hP : va_P (dC, dI) xCl [(h0, eW wd), (h, eB v2_42 (nI (((((((((n + sb_dg (Wn / 1000000000)) + 1) + 1) + 1) + 1) + 1) + 1) + 1) + 1))), (v2_42, eY cB m2_43 f2_44)] H := hP
    have hD : va_D A [(h0, eW wd), (h, eB v2_42 (nI (((((((((n + sb_dg (Wn / 1000000000)) + 1) + 1) + 1) + 1) + 1) + 1) + 1) + 1))), (v2_42, eY cB m2_43 f2_44)] := hD
    obtain ⟨hm_m2_43, hq_m2_43, hf_m2_43⟩ : (m2_43 = 16 ∨ m2_43 = 34) ∧ ((((((((n + sb_dg (Wn / 1000000000)) + 1) + 1) + 1) + 1) + 1) + 1) + 1) + 1 ≤ m2_43 ∧ sb_Fit f2_44 := hw
    rw [he_r_45]
    refine lv_pop hx hb dX1_appendWhole_61 rfl ?_
    refine lv_iload hx hb dX1_appendWhole_62 (lv_at hl 0 rfl) ?_
    refine lv_bipush (v := 10) hx hb dX1_appendWhole_64 (by decide +kernel) ?_
    refine lv_idiv hx hb dX1_appendWhole_66 (by decide +kernel) ?_
    rw [show ((10 : Int32) / 10) = 1 from by decide]
    refine lv_istore (lv' := [(6, .int 1), (5, .int (nI (Wn % 1000000000))), (4, .int (nI (Wn / 1000000000))), (0, .ref h0), (1, .ref h), (2, .long (lN Wn))]) hx hb dX1_appendWhole_67 hl (by decide +kernel) rfl (fun ls hl => ?_)
    refine lv_goto (tgt := 40) hx hb dX1_appendWhole_69 (by decide +kernel) ?_
    refine lv_iload hx hb dX1_appendWhole_40 (lv_at hl 0 rfl) ?_
    refine lv_if_le (tgt := 72) hx hb dX1_appendWhole_42 (by decide +kernel) (fun c9 => absurd c9 (by decide +kernel)) (fun _ => ?_)
    refine lv_aload_n hx hb dX1_appendWhole_45 rfl (lv_at hl 4 rfl) ?_
    refine lv_bipush (v := 48) hx hb dX1_appendWhole_46 (by decide +kernel) ?_
    refine lv_iload hx hb dX1_appendWhole_48 (lv_at hl 1 rfl) ?_
    refine lv_iload hx hb dX1_appendWhole_50 (lv_at hl 0 rfl) ?_
    refine lv_idiv hx hb dX1_appendWhole_52 (by decide +kernel) ?_
    rw [show (((nI (Wn % 1000000000)) / 1) : Int32) = (nI (Wn % 1000000000 / 1)) from (show nI (Wn % 1000000000) / nI 1 = _ from pk_div (a := Wn % 1000000000) (d := 1) (by omega) (by decide +kernel) (by decide +kernel))]
    refine lv_bipush (v := 10) hx hb dX1_appendWhole_53 (by decide +kernel) ?_
    refine lv_irem hx hb dX1_appendWhole_55 (by decide +kernel) ?_
    rw [show (((nI (Wn % 1000000000 / 1)) - (nI (Wn % 1000000000 / 1)) / 10 * 10) : Int32) = (nI (Wn % 1000000000 / 1 % 10)) from (show nI (Wn % 1000000000 / 1) - nI (Wn % 1000000000 / 1) / nI 10 * nI 10 = _ from pk_rem (a := Wn % 1000000000 / 1) (d := 10) (by omega) (by decide +kernel) (by decide +kernel))]
    refine lv_iadd hx hb dX1_appendWhole_56 ?_
    rw [show ((48 + (nI (Wn % 1000000000 / 1 % 10))) : Int32) = (nI (48 + Wn % 1000000000 / 1 % 10)) from (show nI 48 + nI (Wn % 1000000000 / 1 % 10) = _ from nI_add 48 _)]
    refine lv_i2c (v := (nI (48 + Wn % 1000000000 / 1 % 10))) hx hb dX1_appendWhole_57 (jl_chr (by omega)) ?_
    have hPc := hP.sub (ws' := [(h, eB v2_42 (nI (((((((((n + sb_dg (Wn / 1000000000)) + 1) + 1) + 1) + 1) + 1) + 1) + 1) + 1))), (v2_42, eY cB m2_43 f2_44)]) [1, 2] rfl
    have hDc := hD.sub (ws' := [(h, eB v2_42 (nI (((((((((n + sb_dg (Wn / 1000000000)) + 1) + 1) + 1) + 1) + 1) + 1) + 1) + 1))), (v2_42, eY cB m2_43 f2_44)]) [1, 2] (by decide +kernel) rfl
    have hKc := hK.sub (tys' := [(cB, .byte)]) [0] rfl
    have hFc := va_free (wc := [(h, eB v2_42 (nI (((((((((n + sb_dg (Wn / 1000000000)) + 1) + 1) + 1) + 1) + 1) + 1) + 1) + 1))), (v2_42, eY cB m2_43 f2_44)]) hD hS hA [1, 2] rfl
    refine va_callr (va_runV (As := [.int (nI (48 + Wn % 1000000000 / 1 % 10))]) (rest := []) ⟨hx, hb, hml, hown, hts⟩ (k_J4_append_cf468 l dC dI cB h v2_42 (((((((((n + sb_dg (Wn / 1000000000)) + 1) + 1) + 1) + 1) + 1) + 1) + 1) + 1) m2_43 f2_44 (48 + Wn % 1000000000 / 1 % 10) H.size N hm_m2_43 hf_m2_43 (by omega) (by omega)) (cwV 1 hts gX1_appendWhole_J4_append_cf468 rfl rfl rfl (by decide +kernel) ⟨Nat.le_of_ble_eq_true rfl, Nat.le_of_ble_eq_true rfl⟩) (xT.preV hKc hPc hDc hAN (Nat.le_trans hN hS.1) (hG.kept hS hAN) (hT.kept hS hAN) (ci := 1) (q0 := 0) rfl rfl) rfl rfl hl.1 rfl (lv_room (Nat.le_of_ble_eq_true rfl)) dX1_appendWhole_58 ⟨(show _ ≤ 10 by omega), (show _ ≤ 340 by omega)⟩) hS (fun q _ h => hFc q h) hFc (fun u_51 r_50 t H locs ht hvm hw hB hz hk hS => ?_)
    obtain ⟨he_r_50, hP1, hD1⟩ := hB
    rw [ht] at hP1
    obtain ⟨v2_47, m2_48, f2_49⟩ := u_51
    obtain ⟨hP, hD⟩ := va_join (wr := [(h0, eW wd)]) (w1 := [(h, eB v2_47 (nI ((((((((((n + sb_dg (Wn / 1000000000)) + 1) + 1) + 1) + 1) + 1) + 1) + 1) + 1) + 1))), (v2_47, eY cB m2_48 f2_49)]) hP hD [1, 2] [0] rfl rfl (by decide +kernel) (by decide +kernel) hk hFc hP1 hD1
    have hP : va_P (dC, dI) xCl [(h0, eW wd), (h, eB v2_47 (nI ((((((((((n + sb_dg (Wn / 1000000000)) + 1) + 1) + 1) + 1) + 1) + 1) + 1) + 1) + 1))), (v2_47, eY cB m2_48 f2_49)] H := hP
    have hD : va_D A [(h0, eW wd), (h, eB v2_47 (nI ((((((((((n + sb_dg (Wn / 1000000000)) + 1) + 1) + 1) + 1) + 1) + 1) + 1) + 1) + 1))), (v2_47, eY cB m2_48 f2_49)] := hD
    obtain ⟨hm_m2_48, hq_m2_48, hf_m2_48⟩ : (m2_48 = 16 ∨ m2_48 = 34) ∧ (((((((((n + sb_dg (Wn / 1000000000)) + 1) + 1) + 1) + 1) + 1) + 1) + 1) + 1) + 1 ≤ m2_48 ∧ sb_Fit f2_49 := hw
    rw [he_r_50]
    refine lv_pop hx hb dX1_appendWhole_61 rfl ?_
    refine lv_iload hx hb dX1_appendWhole_62 (lv_at hl 0 rfl) ?_
    refine lv_bipush (v := 10) hx hb dX1_appendWhole_64 (by decide +kernel) ?_
    refine lv_idiv hx hb dX1_appendWhole_66 (by decide +kernel) ?_
    rw [show ((1 : Int32) / 10) = 0 from by decide]
    refine lv_istore (lv' := [(6, .int 0), (5, .int (nI (Wn % 1000000000))), (4, .int (nI (Wn / 1000000000))), (0, .ref h0), (1, .ref h), (2, .long (lN Wn))]) hx hb dX1_appendWhole_67 hl (by decide +kernel) rfl (fun ls hl => ?_)
    refine lv_goto (tgt := 40) hx hb dX1_appendWhole_69 (by decide +kernel) ?_
    refine lv_iload hx hb dX1_appendWhole_40 (lv_at hl 0 rfl) ?_
    refine lv_if_le (tgt := 72) hx hb dX1_appendWhole_42 (by decide +kernel) (fun _ => ?_) (fun c9 => absurd c9 (by decide +kernel))
    have hP := hP.sub (ws' := [(h0, eW wd), (h, eB v2_47 (nI ((((((((((n + sb_dg (Wn / 1000000000)) + 1) + 1) + 1) + 1) + 1) + 1) + 1) + 1) + 1))), (v2_47, eY cB m2_48 f2_49)]) [0, 1, 2] rfl
    have hD := hD.sub (ws' := [(h0, eW wd), (h, eB v2_47 (nI ((((((((((n + sb_dg (Wn / 1000000000)) + 1) + 1) + 1) + 1) + 1) + 1) + 1) + 1) + 1))), (v2_47, eY cB m2_48 f2_49)]) [0, 1, 2] (by decide +kernel) rfl
    refine W.widen (k := 10) (n := 340) (by omega) (by omega) ?_
    exact W.vret hx hb hr (fun t ht hW => ⟨⟨(((((((((((n + sb_dg (Wn / 1000000000)) + 1) + 1) + 1) + 1) + 1) + 1) + 1) + 1) + 1), v2_47, m2_48, f2_49), rfl, ⟨hm_m2_48, hq_m2_48, hf_m2_48⟩, by rw [ht]; exact hP, hD⟩, hS.F ht⟩) hS.2.2 dX1_appendWhole_72
  · skip
    refine lv_aload_n hx hb dX1_appendWhole_21 rfl (lv_at hl 3 rfl) ?_
    refine lv_iload hx hb dX1_appendWhole_22 (lv_at hl 0 rfl) ?_
    have hPc := hP.sub (ws' := [(h, eB v (nI n)), (v, eY cB mm f)]) [1, 2] rfl
    have hDc := hD.sub (ws' := [(h, eB v (nI n)), (v, eY cB mm f)]) [1, 2] (by decide +kernel) rfl
    have hKc := hK.sub (tys' := [(cB, .byte)]) [0] rfl
    have hFc := va_free (wc := [(h, eB v (nI n)), (v, eY cB mm f)]) hD hS hA [1, 2] rfl
    refine va_callr (va_runV (As := [.int (nI (Wn % 1000000000))]) (rest := []) ⟨hx, hb, hml, hown, hts⟩ (k_J4_append_bf812 l dC dI cB h v n mm f (Wn % 1000000000) s.heap.size N hm hf (by omega) (by omega)) (cwV 1 hts gX1_appendWhole_J4_append_bf812 rfl rfl rfl (by decide +kernel) ⟨Nat.le_of_ble_eq_true rfl, Nat.le_of_ble_eq_true rfl⟩) (xT.preV hKc hPc hDc hAN (Nat.le_trans hN hS.1) (hG.kept hS hAN) (hT.kept hS hAN) (ci := 1) (q0 := 0) rfl rfl) rfl rfl hl.1 rfl (lv_room (Nat.le_of_ble_eq_true rfl)) dX1_appendWhole_24 ⟨(show _ ≤ 10 by omega), (show _ ≤ 340 by omega)⟩) hS (fun q _ h => hFc q h) hFc (fun u_56 r_55 t H locs ht hvm hw hB hz hk hS => ?_)
    obtain ⟨he_r_55, hP1, hD1⟩ := hB
    rw [ht] at hP1
    obtain ⟨v2_52, m2_53, f2_54⟩ := u_56
    obtain ⟨hP, hD⟩ := va_join (wr := [(h0, eW wd)]) (w1 := [(h, eB v2_52 (nI (n + sb_dg (Wn % 1000000000)))), (v2_52, eY cB m2_53 f2_54)]) hP hD [1, 2] [0] rfl rfl (by decide +kernel) (by decide +kernel) hk hFc hP1 hD1
    have hP : va_P (dC, dI) xCl [(h0, eW wd), (h, eB v2_52 (nI (n + sb_dg (Wn % 1000000000)))), (v2_52, eY cB m2_53 f2_54)] H := hP
    have hD : va_D A [(h0, eW wd), (h, eB v2_52 (nI (n + sb_dg (Wn % 1000000000)))), (v2_52, eY cB m2_53 f2_54)] := hD
    obtain ⟨hm_m2_53, hq_m2_53, hf_m2_53⟩ : (m2_53 = 16 ∨ m2_53 = 34) ∧ n + sb_dg (Wn % 1000000000) ≤ m2_53 ∧ sb_Fit f2_54 := hw
    rw [he_r_55]
    refine lv_pop hx hb dX1_appendWhole_27 rfl ?_
    have hP := hP.sub (ws' := [(h0, eW wd), (h, eB v2_52 (nI (n + sb_dg (Wn % 1000000000)))), (v2_52, eY cB m2_53 f2_54)]) [0, 1, 2] rfl
    have hD := hD.sub (ws' := [(h0, eW wd), (h, eB v2_52 (nI (n + sb_dg (Wn % 1000000000)))), (v2_52, eY cB m2_53 f2_54)]) [0, 1, 2] (by decide +kernel) rfl
    refine W.widen (k := 10) (n := 340) (by omega) (by omega) ?_
    exact W.vret hx hb hr (fun t ht hW => ⟨⟨((n + sb_dg (Wn % 1000000000)), v2_52, m2_53, f2_54), rfl, ⟨hm_m2_53, hq_m2_53, hf_m2_53⟩, by rw [ht]; exact hP, hD⟩, hS.F ht⟩) hS.2.2 dX1_appendWhole_28
