def nmI (V : Nat) : Int32 := if V < 14 then nI (nmR V) else -1
theorem srt_2 {K : Nat} (h : K < 256) : srt K = 2 ↔ K = 2 := by
  unfold srt
  by_cases h0 : K = 0
  · rw [if_pos h0, h0]; decide
  · rw [if_neg h0]
    by_cases h1 : K = 1
    · rw [if_pos h1, h1]; decide
    · rw [if_neg h1]
      by_cases h2 : K = 2
      · rw [if_pos h2, h2]; decide
      · rw [if_neg h2]
        by_cases h3 : K < 19
        · rw [if_pos h3]; exact ⟨fun q => absurd q (by decide), fun q => absurd q h2⟩
        · rw [if_neg h3]
          exact ⟨fun q => absurd ((nI_eq (a := K) (b := 2) (by omega) (by decide)).mp q) (by omega), fun q => absurd q h2⟩
theorem srt_s {K v : Nat} (h : K < 256) (hv : 19 ≤ v) (hv2 : v < 256) : srt K = nI v ↔ K = v := by
  unfold srt
  have n0 : ∀ a : Nat, a < 19 → ¬ nI a = nI v := fun a ha q => absurd ((nI_eq (a := a) (b := v) (by omega) (by omega)).mp q) (by omega)
  by_cases h0 : K = 0
  · rw [if_pos h0]; exact ⟨fun q => absurd q (n0 0 (by decide)), fun q => by omega⟩
  · rw [if_neg h0]
    by_cases h1 : K = 1
    · rw [if_pos h1]; exact ⟨fun q => absurd q (n0 3 (by decide)), fun q => by omega⟩
    · rw [if_neg h1]
      by_cases h2 : K = 2
      · rw [if_pos h2]; exact ⟨fun q => absurd q (n0 2 (by decide)), fun q => by omega⟩
      · rw [if_neg h2]
        by_cases h3 : K < 19
        · rw [if_pos h3]; exact ⟨fun q => absurd q (n0 1 (by decide)), fun q => by omega⟩
        · rw [if_neg h3]
          exact ⟨fun q => (nI_eq (by omega) (by omega)).mp q, fun q => by rw [q]⟩
set_option maxRecDepth 100000 in
set_option maxHeartbeats 1000000 in
theorem tX12_named {d : Nat} {Φ : Option Int32 → Mem → Prop} {M0 N : Mem} {n : Nat} {x : PSt} {ws : List Nat} (hc : PQ M0 N n x ws) (hK : x.1.1 = 3) (h : Φ (some (nmI x.1.2.1)) N) : JM noRo d mX12_named 0 [some (.ref 62)] [] N Φ := by
  have hq : ∀ v, v < 19 → (N.2 62 = Int64.ofNat (cw v) ↔ x.1.2.1 = v) := fun v hv => by
    have z := wd_eq hc.2.2.1 (Or.inl hK) hv
    rw [if_pos hK] at z
    exact z
  refine J_aload_n dX12_named_0 rfl ?_
  refine M_getL dX12_named_1 fX12_170 rfl rfl (by decide) ?_
  refine J_ldc2 dX12_named_4 ccX12_192 ?_
  refine J_lcmp dX12_named_7 ?_
  refine J_if_ne (tgt := 13) dX12_named_8 (by decide) (fun c1 => ?_) (fun c1 => ?_)
  · -- to 13
    refine J_aload_n dX12_named_13 rfl ?_
    refine M_getL dX12_named_14 fX12_170 rfl rfl (by decide) ?_
    refine J_ldc2 dX12_named_17 ccX12_194 ?_
    refine J_lcmp dX12_named_20 ?_
    refine J_if_ne (tgt := 26) dX12_named_21 (by decide) (fun c2 => ?_) (fun c2 => ?_)
    · -- to 26
      refine J_aload_n dX12_named_26 rfl ?_
      refine M_getL dX12_named_27 fX12_170 rfl rfl (by decide) ?_
      refine J_ldc2 dX12_named_30 ccX12_196 ?_
      refine J_lcmp dX12_named_33 ?_
      refine J_if_ne (tgt := 39) dX12_named_34 (by decide) (fun c3 => ?_) (fun c3 => ?_)
      · -- to 39
        refine J_aload_n dX12_named_39 rfl ?_
        refine M_getL dX12_named_40 fX12_170 rfl rfl (by decide) ?_
        refine J_ldc2 dX12_named_43 ccX12_198 ?_
        refine J_lcmp dX12_named_46 ?_
        refine J_if_ne (tgt := 52) dX12_named_47 (by decide) (fun c4 => ?_) (fun c4 => ?_)
        · -- to 52
          refine J_aload_n dX12_named_52 rfl ?_
          refine M_getL dX12_named_53 fX12_170 rfl rfl (by decide) ?_
          refine J_ldc2 dX12_named_56 ccX12_200 ?_
          refine J_lcmp dX12_named_59 ?_
          refine J_if_ne (tgt := 65) dX12_named_60 (by decide) (fun c5 => ?_) (fun c5 => ?_)
          · -- to 65
            refine J_aload_n dX12_named_65 rfl ?_
            refine M_getL dX12_named_66 fX12_170 rfl rfl (by decide) ?_
            refine J_ldc2 dX12_named_69 ccX12_202 ?_
            refine J_lcmp dX12_named_72 ?_
            refine J_if_ne (tgt := 78) dX12_named_73 (by decide) (fun c6 => ?_) (fun c6 => ?_)
            · -- to 78
              refine J_aload_n dX12_named_78 rfl ?_
              refine M_getL dX12_named_79 fX12_170 rfl rfl (by decide) ?_
              refine J_ldc2 dX12_named_82 ccX12_204 ?_
              refine J_lcmp dX12_named_85 ?_
              refine J_if_ne (tgt := 92) dX12_named_86 (by decide) (fun c7 => ?_) (fun c7 => ?_)
              · -- to 92
                refine J_aload_n dX12_named_92 rfl ?_
                refine M_getL dX12_named_93 fX12_170 rfl rfl (by decide) ?_
                refine J_ldc2 dX12_named_96 ccX12_206 ?_
                refine J_lcmp dX12_named_99 ?_
                refine J_if_ne (tgt := 106) dX12_named_100 (by decide) (fun c8 => ?_) (fun c8 => ?_)
                · -- to 106
                  refine J_aload_n dX12_named_106 rfl ?_
                  refine M_getL dX12_named_107 fX12_170 rfl rfl (by decide) ?_
                  refine J_ldc2 dX12_named_110 ccX12_208 ?_
                  refine J_lcmp dX12_named_113 ?_
                  refine J_if_ne (tgt := 120) dX12_named_114 (by decide) (fun c9 => ?_) (fun c9 => ?_)
                  · -- to 120
                    refine J_aload_n dX12_named_120 rfl ?_
                    refine M_getL dX12_named_121 fX12_170 rfl rfl (by decide) ?_
                    refine J_ldc2 dX12_named_124 ccX12_210 ?_
                    refine J_lcmp dX12_named_127 ?_
                    refine J_if_ne (tgt := 134) dX12_named_128 (by decide) (fun c10 => ?_) (fun c10 => ?_)
                    · -- to 134
                      refine J_aload_n dX12_named_134 rfl ?_
                      refine M_getL dX12_named_135 fX12_170 rfl rfl (by decide) ?_
                      refine J_ldc2 dX12_named_138 ccX12_212 ?_
                      refine J_lcmp dX12_named_141 ?_
                      refine J_if_ne (tgt := 148) dX12_named_142 (by decide) (fun c11 => ?_) (fun c11 => ?_)
                      · -- to 148
                        refine J_aload_n dX12_named_148 rfl ?_
                        refine M_getL dX12_named_149 fX12_170 rfl rfl (by decide) ?_
                        refine J_ldc2 dX12_named_152 ccX12_214 ?_
                        refine J_lcmp dX12_named_155 ?_
                        refine J_if_ne (tgt := 162) dX12_named_156 (by decide) (fun c12 => ?_) (fun c12 => ?_)
                        · -- to 162
                          refine J_aload_n dX12_named_162 rfl ?_
                          refine M_getL dX12_named_163 fX12_170 rfl rfl (by decide) ?_
                          refine J_ldc2 dX12_named_166 ccX12_216 ?_
                          refine J_lcmp dX12_named_169 ?_
                          refine J_if_ne (tgt := 176) dX12_named_170 (by decide) (fun c13 => ?_) (fun c13 => ?_)
                          · -- to 176
                            refine J_aload_n dX12_named_176 rfl ?_
                            refine M_getL dX12_named_177 fX12_170 rfl rfl (by decide) ?_
                            refine J_ldc2 dX12_named_180 ccX12_218 ?_
                            refine J_lcmp dX12_named_183 ?_
                            refine J_if_ne (tgt := 192) dX12_named_184 (by decide) (fun c14 => ?_) (fun c14 => ?_)
                            · -- to 192
                              have hno : ¬ x.1.2.1 < 14 := fun q => by
                                have hh : x.1.2.1 = 0 ∨ x.1.2.1 = 1 ∨ x.1.2.1 = 2 ∨ x.1.2.1 = 3 ∨ x.1.2.1 = 4 ∨ x.1.2.1 = 5 ∨ x.1.2.1 = 6 ∨ x.1.2.1 = 7 ∨ x.1.2.1 = 8 ∨ x.1.2.1 = 9 ∨ x.1.2.1 = 10 ∨ x.1.2.1 = 11 ∨ x.1.2.1 = 12 ∨ x.1.2.1 = 13 := by omega
                                rcases hh with e | e | e | e | e | e | e | e | e | e | e | e | e | e
                                · exact c1 ((lg_cmp_eq _ _).mpr ((hq 0 (by decide)).mpr e))
                                · exact c2 ((lg_cmp_eq _ _).mpr ((hq 1 (by decide)).mpr e))
                                · exact c3 ((lg_cmp_eq _ _).mpr ((hq 2 (by decide)).mpr e))
                                · exact c4 ((lg_cmp_eq _ _).mpr ((hq 3 (by decide)).mpr e))
                                · exact c5 ((lg_cmp_eq _ _).mpr ((hq 4 (by decide)).mpr e))
                                · exact c6 ((lg_cmp_eq _ _).mpr ((hq 5 (by decide)).mpr e))
                                · exact c7 ((lg_cmp_eq _ _).mpr ((hq 6 (by decide)).mpr e))
                                · exact c8 ((lg_cmp_eq _ _).mpr ((hq 7 (by decide)).mpr e))
                                · exact c14 ((lg_cmp_eq _ _).mpr ((hq 8 (by decide)).mpr e))
                                · exact c9 ((lg_cmp_eq _ _).mpr ((hq 9 (by decide)).mpr e))
                                · exact c10 ((lg_cmp_eq _ _).mpr ((hq 10 (by decide)).mpr e))
                                · exact c11 ((lg_cmp_eq _ _).mpr ((hq 11 (by decide)).mpr e))
                                · exact c12 ((lg_cmp_eq _ _).mpr ((hq 12 (by decide)).mpr e))
                                · exact c13 ((lg_cmp_eq _ _).mpr ((hq 13 (by decide)).mpr e))
                              refine J_iconst (v := -1) dX12_named_192 (by decide) ?_
                              refine M_iret dX12_named_193 rfl rfl ?_
                              first
                              | (rw [(hq 0 (by decide)).mp ((lg_cmp_eq _ _).mp c14)] at h; exact h)
                              | (rw [(hq 1 (by decide)).mp ((lg_cmp_eq _ _).mp c14)] at h; exact h)
                              | (rw [(hq 2 (by decide)).mp ((lg_cmp_eq _ _).mp c14)] at h; exact h)
                              | (rw [(hq 3 (by decide)).mp ((lg_cmp_eq _ _).mp c14)] at h; exact h)
                              | (rw [(hq 4 (by decide)).mp ((lg_cmp_eq _ _).mp c14)] at h; exact h)
                              | (rw [(hq 5 (by decide)).mp ((lg_cmp_eq _ _).mp c14)] at h; exact h)
                              | (rw [(hq 6 (by decide)).mp ((lg_cmp_eq _ _).mp c14)] at h; exact h)
                              | (rw [(hq 7 (by decide)).mp ((lg_cmp_eq _ _).mp c14)] at h; exact h)
                              | (rw [(hq 9 (by decide)).mp ((lg_cmp_eq _ _).mp c14)] at h; exact h)
                              | (rw [(hq 10 (by decide)).mp ((lg_cmp_eq _ _).mp c14)] at h; exact h)
                              | (rw [(hq 11 (by decide)).mp ((lg_cmp_eq _ _).mp c14)] at h; exact h)
                              | (rw [(hq 12 (by decide)).mp ((lg_cmp_eq _ _).mp c14)] at h; exact h)
                              | (rw [(hq 13 (by decide)).mp ((lg_cmp_eq _ _).mp c14)] at h; exact h)
                              | (rw [(hq 8 (by decide)).mp ((lg_cmp_eq _ _).mp c14)] at h; exact h)
                              | (rw [show nmI x.1.2.1 = -1 from if_neg hno] at h; exact h)
                            · -- on 187
                              refine J_bipush (v := 13) dX12_named_187 (by decide) ?_
                              refine J_goto (tgt := 193) dX12_named_189 (by decide) ?_
                              refine M_iret dX12_named_193 rfl rfl ?_
                              first
                              | (rw [(hq 0 (by decide)).mp ((lg_cmp_eq _ _).mp c14)] at h; exact h)
                              | (rw [(hq 1 (by decide)).mp ((lg_cmp_eq _ _).mp c14)] at h; exact h)
                              | (rw [(hq 2 (by decide)).mp ((lg_cmp_eq _ _).mp c14)] at h; exact h)
                              | (rw [(hq 3 (by decide)).mp ((lg_cmp_eq _ _).mp c14)] at h; exact h)
                              | (rw [(hq 4 (by decide)).mp ((lg_cmp_eq _ _).mp c14)] at h; exact h)
                              | (rw [(hq 5 (by decide)).mp ((lg_cmp_eq _ _).mp c14)] at h; exact h)
                              | (rw [(hq 6 (by decide)).mp ((lg_cmp_eq _ _).mp c14)] at h; exact h)
                              | (rw [(hq 7 (by decide)).mp ((lg_cmp_eq _ _).mp c14)] at h; exact h)
                              | (rw [(hq 9 (by decide)).mp ((lg_cmp_eq _ _).mp c14)] at h; exact h)
                              | (rw [(hq 10 (by decide)).mp ((lg_cmp_eq _ _).mp c14)] at h; exact h)
                              | (rw [(hq 11 (by decide)).mp ((lg_cmp_eq _ _).mp c14)] at h; exact h)
                              | (rw [(hq 12 (by decide)).mp ((lg_cmp_eq _ _).mp c14)] at h; exact h)
                              | (rw [(hq 13 (by decide)).mp ((lg_cmp_eq _ _).mp c14)] at h; exact h)
                              | (rw [(hq 8 (by decide)).mp ((lg_cmp_eq _ _).mp c14)] at h; exact h)
                              | (rw [show nmI x.1.2.1 = -1 from if_neg hno] at h; exact h)
                          · -- on 173
                            refine J_bipush (v := 12) dX12_named_173 (by decide) ?_
                            refine M_iret dX12_named_175 rfl rfl ?_
                            first
                            | (rw [(hq 0 (by decide)).mp ((lg_cmp_eq _ _).mp c13)] at h; exact h)
                            | (rw [(hq 1 (by decide)).mp ((lg_cmp_eq _ _).mp c13)] at h; exact h)
                            | (rw [(hq 2 (by decide)).mp ((lg_cmp_eq _ _).mp c13)] at h; exact h)
                            | (rw [(hq 3 (by decide)).mp ((lg_cmp_eq _ _).mp c13)] at h; exact h)
                            | (rw [(hq 4 (by decide)).mp ((lg_cmp_eq _ _).mp c13)] at h; exact h)
                            | (rw [(hq 5 (by decide)).mp ((lg_cmp_eq _ _).mp c13)] at h; exact h)
                            | (rw [(hq 6 (by decide)).mp ((lg_cmp_eq _ _).mp c13)] at h; exact h)
                            | (rw [(hq 7 (by decide)).mp ((lg_cmp_eq _ _).mp c13)] at h; exact h)
                            | (rw [(hq 9 (by decide)).mp ((lg_cmp_eq _ _).mp c13)] at h; exact h)
                            | (rw [(hq 10 (by decide)).mp ((lg_cmp_eq _ _).mp c13)] at h; exact h)
                            | (rw [(hq 11 (by decide)).mp ((lg_cmp_eq _ _).mp c13)] at h; exact h)
                            | (rw [(hq 12 (by decide)).mp ((lg_cmp_eq _ _).mp c13)] at h; exact h)
                            | (rw [(hq 13 (by decide)).mp ((lg_cmp_eq _ _).mp c13)] at h; exact h)
                            | (rw [(hq 8 (by decide)).mp ((lg_cmp_eq _ _).mp c13)] at h; exact h)
                            | (rw [show nmI x.1.2.1 = -1 from if_neg hno] at h; exact h)
                        · -- on 159
                          refine J_bipush (v := 11) dX12_named_159 (by decide) ?_
                          refine M_iret dX12_named_161 rfl rfl ?_
                          first
                          | (rw [(hq 0 (by decide)).mp ((lg_cmp_eq _ _).mp c12)] at h; exact h)
                          | (rw [(hq 1 (by decide)).mp ((lg_cmp_eq _ _).mp c12)] at h; exact h)
                          | (rw [(hq 2 (by decide)).mp ((lg_cmp_eq _ _).mp c12)] at h; exact h)
                          | (rw [(hq 3 (by decide)).mp ((lg_cmp_eq _ _).mp c12)] at h; exact h)
                          | (rw [(hq 4 (by decide)).mp ((lg_cmp_eq _ _).mp c12)] at h; exact h)
                          | (rw [(hq 5 (by decide)).mp ((lg_cmp_eq _ _).mp c12)] at h; exact h)
                          | (rw [(hq 6 (by decide)).mp ((lg_cmp_eq _ _).mp c12)] at h; exact h)
                          | (rw [(hq 7 (by decide)).mp ((lg_cmp_eq _ _).mp c12)] at h; exact h)
                          | (rw [(hq 9 (by decide)).mp ((lg_cmp_eq _ _).mp c12)] at h; exact h)
                          | (rw [(hq 10 (by decide)).mp ((lg_cmp_eq _ _).mp c12)] at h; exact h)
                          | (rw [(hq 11 (by decide)).mp ((lg_cmp_eq _ _).mp c12)] at h; exact h)
                          | (rw [(hq 12 (by decide)).mp ((lg_cmp_eq _ _).mp c12)] at h; exact h)
                          | (rw [(hq 13 (by decide)).mp ((lg_cmp_eq _ _).mp c12)] at h; exact h)
                          | (rw [(hq 8 (by decide)).mp ((lg_cmp_eq _ _).mp c12)] at h; exact h)
                          | (rw [show nmI x.1.2.1 = -1 from if_neg hno] at h; exact h)
                      · -- on 145
                        refine J_bipush (v := 10) dX12_named_145 (by decide) ?_
                        refine M_iret dX12_named_147 rfl rfl ?_
                        first
                        | (rw [(hq 0 (by decide)).mp ((lg_cmp_eq _ _).mp c11)] at h; exact h)
                        | (rw [(hq 1 (by decide)).mp ((lg_cmp_eq _ _).mp c11)] at h; exact h)
                        | (rw [(hq 2 (by decide)).mp ((lg_cmp_eq _ _).mp c11)] at h; exact h)
                        | (rw [(hq 3 (by decide)).mp ((lg_cmp_eq _ _).mp c11)] at h; exact h)
                        | (rw [(hq 4 (by decide)).mp ((lg_cmp_eq _ _).mp c11)] at h; exact h)
                        | (rw [(hq 5 (by decide)).mp ((lg_cmp_eq _ _).mp c11)] at h; exact h)
                        | (rw [(hq 6 (by decide)).mp ((lg_cmp_eq _ _).mp c11)] at h; exact h)
                        | (rw [(hq 7 (by decide)).mp ((lg_cmp_eq _ _).mp c11)] at h; exact h)
                        | (rw [(hq 9 (by decide)).mp ((lg_cmp_eq _ _).mp c11)] at h; exact h)
                        | (rw [(hq 10 (by decide)).mp ((lg_cmp_eq _ _).mp c11)] at h; exact h)
                        | (rw [(hq 11 (by decide)).mp ((lg_cmp_eq _ _).mp c11)] at h; exact h)
                        | (rw [(hq 12 (by decide)).mp ((lg_cmp_eq _ _).mp c11)] at h; exact h)
                        | (rw [(hq 13 (by decide)).mp ((lg_cmp_eq _ _).mp c11)] at h; exact h)
                        | (rw [(hq 8 (by decide)).mp ((lg_cmp_eq _ _).mp c11)] at h; exact h)
                        | (rw [show nmI x.1.2.1 = -1 from if_neg hno] at h; exact h)
                    · -- on 131
                      refine J_bipush (v := 9) dX12_named_131 (by decide) ?_
                      refine M_iret dX12_named_133 rfl rfl ?_
                      first
                      | (rw [(hq 0 (by decide)).mp ((lg_cmp_eq _ _).mp c10)] at h; exact h)
                      | (rw [(hq 1 (by decide)).mp ((lg_cmp_eq _ _).mp c10)] at h; exact h)
                      | (rw [(hq 2 (by decide)).mp ((lg_cmp_eq _ _).mp c10)] at h; exact h)
                      | (rw [(hq 3 (by decide)).mp ((lg_cmp_eq _ _).mp c10)] at h; exact h)
                      | (rw [(hq 4 (by decide)).mp ((lg_cmp_eq _ _).mp c10)] at h; exact h)
                      | (rw [(hq 5 (by decide)).mp ((lg_cmp_eq _ _).mp c10)] at h; exact h)
                      | (rw [(hq 6 (by decide)).mp ((lg_cmp_eq _ _).mp c10)] at h; exact h)
                      | (rw [(hq 7 (by decide)).mp ((lg_cmp_eq _ _).mp c10)] at h; exact h)
                      | (rw [(hq 9 (by decide)).mp ((lg_cmp_eq _ _).mp c10)] at h; exact h)
                      | (rw [(hq 10 (by decide)).mp ((lg_cmp_eq _ _).mp c10)] at h; exact h)
                      | (rw [(hq 11 (by decide)).mp ((lg_cmp_eq _ _).mp c10)] at h; exact h)
                      | (rw [(hq 12 (by decide)).mp ((lg_cmp_eq _ _).mp c10)] at h; exact h)
                      | (rw [(hq 13 (by decide)).mp ((lg_cmp_eq _ _).mp c10)] at h; exact h)
                      | (rw [(hq 8 (by decide)).mp ((lg_cmp_eq _ _).mp c10)] at h; exact h)
                      | (rw [show nmI x.1.2.1 = -1 from if_neg hno] at h; exact h)
                  · -- on 117
                    refine J_bipush (v := 8) dX12_named_117 (by decide) ?_
                    refine M_iret dX12_named_119 rfl rfl ?_
                    first
                    | (rw [(hq 0 (by decide)).mp ((lg_cmp_eq _ _).mp c9)] at h; exact h)
                    | (rw [(hq 1 (by decide)).mp ((lg_cmp_eq _ _).mp c9)] at h; exact h)
                    | (rw [(hq 2 (by decide)).mp ((lg_cmp_eq _ _).mp c9)] at h; exact h)
                    | (rw [(hq 3 (by decide)).mp ((lg_cmp_eq _ _).mp c9)] at h; exact h)
                    | (rw [(hq 4 (by decide)).mp ((lg_cmp_eq _ _).mp c9)] at h; exact h)
                    | (rw [(hq 5 (by decide)).mp ((lg_cmp_eq _ _).mp c9)] at h; exact h)
                    | (rw [(hq 6 (by decide)).mp ((lg_cmp_eq _ _).mp c9)] at h; exact h)
                    | (rw [(hq 7 (by decide)).mp ((lg_cmp_eq _ _).mp c9)] at h; exact h)
                    | (rw [(hq 9 (by decide)).mp ((lg_cmp_eq _ _).mp c9)] at h; exact h)
                    | (rw [(hq 10 (by decide)).mp ((lg_cmp_eq _ _).mp c9)] at h; exact h)
                    | (rw [(hq 11 (by decide)).mp ((lg_cmp_eq _ _).mp c9)] at h; exact h)
                    | (rw [(hq 12 (by decide)).mp ((lg_cmp_eq _ _).mp c9)] at h; exact h)
                    | (rw [(hq 13 (by decide)).mp ((lg_cmp_eq _ _).mp c9)] at h; exact h)
                    | (rw [(hq 8 (by decide)).mp ((lg_cmp_eq _ _).mp c9)] at h; exact h)
                    | (rw [show nmI x.1.2.1 = -1 from if_neg hno] at h; exact h)
                · -- on 103
                  refine J_bipush (v := 7) dX12_named_103 (by decide) ?_
                  refine M_iret dX12_named_105 rfl rfl ?_
                  first
                  | (rw [(hq 0 (by decide)).mp ((lg_cmp_eq _ _).mp c8)] at h; exact h)
                  | (rw [(hq 1 (by decide)).mp ((lg_cmp_eq _ _).mp c8)] at h; exact h)
                  | (rw [(hq 2 (by decide)).mp ((lg_cmp_eq _ _).mp c8)] at h; exact h)
                  | (rw [(hq 3 (by decide)).mp ((lg_cmp_eq _ _).mp c8)] at h; exact h)
                  | (rw [(hq 4 (by decide)).mp ((lg_cmp_eq _ _).mp c8)] at h; exact h)
                  | (rw [(hq 5 (by decide)).mp ((lg_cmp_eq _ _).mp c8)] at h; exact h)
                  | (rw [(hq 6 (by decide)).mp ((lg_cmp_eq _ _).mp c8)] at h; exact h)
                  | (rw [(hq 7 (by decide)).mp ((lg_cmp_eq _ _).mp c8)] at h; exact h)
                  | (rw [(hq 9 (by decide)).mp ((lg_cmp_eq _ _).mp c8)] at h; exact h)
                  | (rw [(hq 10 (by decide)).mp ((lg_cmp_eq _ _).mp c8)] at h; exact h)
                  | (rw [(hq 11 (by decide)).mp ((lg_cmp_eq _ _).mp c8)] at h; exact h)
                  | (rw [(hq 12 (by decide)).mp ((lg_cmp_eq _ _).mp c8)] at h; exact h)
                  | (rw [(hq 13 (by decide)).mp ((lg_cmp_eq _ _).mp c8)] at h; exact h)
                  | (rw [(hq 8 (by decide)).mp ((lg_cmp_eq _ _).mp c8)] at h; exact h)
                  | (rw [show nmI x.1.2.1 = -1 from if_neg hno] at h; exact h)
              · -- on 89
                refine J_bipush (v := 6) dX12_named_89 (by decide) ?_
                refine M_iret dX12_named_91 rfl rfl ?_
                first
                | (rw [(hq 0 (by decide)).mp ((lg_cmp_eq _ _).mp c7)] at h; exact h)
                | (rw [(hq 1 (by decide)).mp ((lg_cmp_eq _ _).mp c7)] at h; exact h)
                | (rw [(hq 2 (by decide)).mp ((lg_cmp_eq _ _).mp c7)] at h; exact h)
                | (rw [(hq 3 (by decide)).mp ((lg_cmp_eq _ _).mp c7)] at h; exact h)
                | (rw [(hq 4 (by decide)).mp ((lg_cmp_eq _ _).mp c7)] at h; exact h)
                | (rw [(hq 5 (by decide)).mp ((lg_cmp_eq _ _).mp c7)] at h; exact h)
                | (rw [(hq 6 (by decide)).mp ((lg_cmp_eq _ _).mp c7)] at h; exact h)
                | (rw [(hq 7 (by decide)).mp ((lg_cmp_eq _ _).mp c7)] at h; exact h)
                | (rw [(hq 9 (by decide)).mp ((lg_cmp_eq _ _).mp c7)] at h; exact h)
                | (rw [(hq 10 (by decide)).mp ((lg_cmp_eq _ _).mp c7)] at h; exact h)
                | (rw [(hq 11 (by decide)).mp ((lg_cmp_eq _ _).mp c7)] at h; exact h)
                | (rw [(hq 12 (by decide)).mp ((lg_cmp_eq _ _).mp c7)] at h; exact h)
                | (rw [(hq 13 (by decide)).mp ((lg_cmp_eq _ _).mp c7)] at h; exact h)
                | (rw [(hq 8 (by decide)).mp ((lg_cmp_eq _ _).mp c7)] at h; exact h)
                | (rw [show nmI x.1.2.1 = -1 from if_neg hno] at h; exact h)
            · -- on 76
              refine J_iconst (v := 5) dX12_named_76 (by decide) ?_
              refine M_iret dX12_named_77 rfl rfl ?_
              first
              | (rw [(hq 0 (by decide)).mp ((lg_cmp_eq _ _).mp c6)] at h; exact h)
              | (rw [(hq 1 (by decide)).mp ((lg_cmp_eq _ _).mp c6)] at h; exact h)
              | (rw [(hq 2 (by decide)).mp ((lg_cmp_eq _ _).mp c6)] at h; exact h)
              | (rw [(hq 3 (by decide)).mp ((lg_cmp_eq _ _).mp c6)] at h; exact h)
              | (rw [(hq 4 (by decide)).mp ((lg_cmp_eq _ _).mp c6)] at h; exact h)
              | (rw [(hq 5 (by decide)).mp ((lg_cmp_eq _ _).mp c6)] at h; exact h)
              | (rw [(hq 6 (by decide)).mp ((lg_cmp_eq _ _).mp c6)] at h; exact h)
              | (rw [(hq 7 (by decide)).mp ((lg_cmp_eq _ _).mp c6)] at h; exact h)
              | (rw [(hq 9 (by decide)).mp ((lg_cmp_eq _ _).mp c6)] at h; exact h)
              | (rw [(hq 10 (by decide)).mp ((lg_cmp_eq _ _).mp c6)] at h; exact h)
              | (rw [(hq 11 (by decide)).mp ((lg_cmp_eq _ _).mp c6)] at h; exact h)
              | (rw [(hq 12 (by decide)).mp ((lg_cmp_eq _ _).mp c6)] at h; exact h)
              | (rw [(hq 13 (by decide)).mp ((lg_cmp_eq _ _).mp c6)] at h; exact h)
              | (rw [(hq 8 (by decide)).mp ((lg_cmp_eq _ _).mp c6)] at h; exact h)
              | (rw [show nmI x.1.2.1 = -1 from if_neg hno] at h; exact h)
          · -- on 63
            refine J_iconst (v := 4) dX12_named_63 (by decide) ?_
            refine M_iret dX12_named_64 rfl rfl ?_
            first
            | (rw [(hq 0 (by decide)).mp ((lg_cmp_eq _ _).mp c5)] at h; exact h)
            | (rw [(hq 1 (by decide)).mp ((lg_cmp_eq _ _).mp c5)] at h; exact h)
            | (rw [(hq 2 (by decide)).mp ((lg_cmp_eq _ _).mp c5)] at h; exact h)
            | (rw [(hq 3 (by decide)).mp ((lg_cmp_eq _ _).mp c5)] at h; exact h)
            | (rw [(hq 4 (by decide)).mp ((lg_cmp_eq _ _).mp c5)] at h; exact h)
            | (rw [(hq 5 (by decide)).mp ((lg_cmp_eq _ _).mp c5)] at h; exact h)
            | (rw [(hq 6 (by decide)).mp ((lg_cmp_eq _ _).mp c5)] at h; exact h)
            | (rw [(hq 7 (by decide)).mp ((lg_cmp_eq _ _).mp c5)] at h; exact h)
            | (rw [(hq 9 (by decide)).mp ((lg_cmp_eq _ _).mp c5)] at h; exact h)
            | (rw [(hq 10 (by decide)).mp ((lg_cmp_eq _ _).mp c5)] at h; exact h)
            | (rw [(hq 11 (by decide)).mp ((lg_cmp_eq _ _).mp c5)] at h; exact h)
            | (rw [(hq 12 (by decide)).mp ((lg_cmp_eq _ _).mp c5)] at h; exact h)
            | (rw [(hq 13 (by decide)).mp ((lg_cmp_eq _ _).mp c5)] at h; exact h)
            | (rw [(hq 8 (by decide)).mp ((lg_cmp_eq _ _).mp c5)] at h; exact h)
            | (rw [show nmI x.1.2.1 = -1 from if_neg hno] at h; exact h)
        · -- on 50
          refine J_iconst (v := 3) dX12_named_50 (by decide) ?_
          refine M_iret dX12_named_51 rfl rfl ?_
          first
          | (rw [(hq 0 (by decide)).mp ((lg_cmp_eq _ _).mp c4)] at h; exact h)
          | (rw [(hq 1 (by decide)).mp ((lg_cmp_eq _ _).mp c4)] at h; exact h)
          | (rw [(hq 2 (by decide)).mp ((lg_cmp_eq _ _).mp c4)] at h; exact h)
          | (rw [(hq 3 (by decide)).mp ((lg_cmp_eq _ _).mp c4)] at h; exact h)
          | (rw [(hq 4 (by decide)).mp ((lg_cmp_eq _ _).mp c4)] at h; exact h)
          | (rw [(hq 5 (by decide)).mp ((lg_cmp_eq _ _).mp c4)] at h; exact h)
          | (rw [(hq 6 (by decide)).mp ((lg_cmp_eq _ _).mp c4)] at h; exact h)
          | (rw [(hq 7 (by decide)).mp ((lg_cmp_eq _ _).mp c4)] at h; exact h)
          | (rw [(hq 9 (by decide)).mp ((lg_cmp_eq _ _).mp c4)] at h; exact h)
          | (rw [(hq 10 (by decide)).mp ((lg_cmp_eq _ _).mp c4)] at h; exact h)
          | (rw [(hq 11 (by decide)).mp ((lg_cmp_eq _ _).mp c4)] at h; exact h)
          | (rw [(hq 12 (by decide)).mp ((lg_cmp_eq _ _).mp c4)] at h; exact h)
          | (rw [(hq 13 (by decide)).mp ((lg_cmp_eq _ _).mp c4)] at h; exact h)
          | (rw [(hq 8 (by decide)).mp ((lg_cmp_eq _ _).mp c4)] at h; exact h)
          | (rw [show nmI x.1.2.1 = -1 from if_neg hno] at h; exact h)
      · -- on 37
        refine J_iconst (v := 2) dX12_named_37 (by decide) ?_
        refine M_iret dX12_named_38 rfl rfl ?_
        first
        | (rw [(hq 0 (by decide)).mp ((lg_cmp_eq _ _).mp c3)] at h; exact h)
        | (rw [(hq 1 (by decide)).mp ((lg_cmp_eq _ _).mp c3)] at h; exact h)
        | (rw [(hq 2 (by decide)).mp ((lg_cmp_eq _ _).mp c3)] at h; exact h)
        | (rw [(hq 3 (by decide)).mp ((lg_cmp_eq _ _).mp c3)] at h; exact h)
        | (rw [(hq 4 (by decide)).mp ((lg_cmp_eq _ _).mp c3)] at h; exact h)
        | (rw [(hq 5 (by decide)).mp ((lg_cmp_eq _ _).mp c3)] at h; exact h)
        | (rw [(hq 6 (by decide)).mp ((lg_cmp_eq _ _).mp c3)] at h; exact h)
        | (rw [(hq 7 (by decide)).mp ((lg_cmp_eq _ _).mp c3)] at h; exact h)
        | (rw [(hq 9 (by decide)).mp ((lg_cmp_eq _ _).mp c3)] at h; exact h)
        | (rw [(hq 10 (by decide)).mp ((lg_cmp_eq _ _).mp c3)] at h; exact h)
        | (rw [(hq 11 (by decide)).mp ((lg_cmp_eq _ _).mp c3)] at h; exact h)
        | (rw [(hq 12 (by decide)).mp ((lg_cmp_eq _ _).mp c3)] at h; exact h)
        | (rw [(hq 13 (by decide)).mp ((lg_cmp_eq _ _).mp c3)] at h; exact h)
        | (rw [(hq 8 (by decide)).mp ((lg_cmp_eq _ _).mp c3)] at h; exact h)
        | (rw [show nmI x.1.2.1 = -1 from if_neg hno] at h; exact h)
    · -- on 24
      refine J_iconst (v := 1) dX12_named_24 (by decide) ?_
      refine M_iret dX12_named_25 rfl rfl ?_
      first
      | (rw [(hq 0 (by decide)).mp ((lg_cmp_eq _ _).mp c2)] at h; exact h)
      | (rw [(hq 1 (by decide)).mp ((lg_cmp_eq _ _).mp c2)] at h; exact h)
      | (rw [(hq 2 (by decide)).mp ((lg_cmp_eq _ _).mp c2)] at h; exact h)
      | (rw [(hq 3 (by decide)).mp ((lg_cmp_eq _ _).mp c2)] at h; exact h)
      | (rw [(hq 4 (by decide)).mp ((lg_cmp_eq _ _).mp c2)] at h; exact h)
      | (rw [(hq 5 (by decide)).mp ((lg_cmp_eq _ _).mp c2)] at h; exact h)
      | (rw [(hq 6 (by decide)).mp ((lg_cmp_eq _ _).mp c2)] at h; exact h)
      | (rw [(hq 7 (by decide)).mp ((lg_cmp_eq _ _).mp c2)] at h; exact h)
      | (rw [(hq 9 (by decide)).mp ((lg_cmp_eq _ _).mp c2)] at h; exact h)
      | (rw [(hq 10 (by decide)).mp ((lg_cmp_eq _ _).mp c2)] at h; exact h)
      | (rw [(hq 11 (by decide)).mp ((lg_cmp_eq _ _).mp c2)] at h; exact h)
      | (rw [(hq 12 (by decide)).mp ((lg_cmp_eq _ _).mp c2)] at h; exact h)
      | (rw [(hq 13 (by decide)).mp ((lg_cmp_eq _ _).mp c2)] at h; exact h)
      | (rw [(hq 8 (by decide)).mp ((lg_cmp_eq _ _).mp c2)] at h; exact h)
      | (rw [show nmI x.1.2.1 = -1 from if_neg hno] at h; exact h)
  · -- on 11
    refine J_iconst (v := 0) dX12_named_11 (by decide) ?_
    refine M_iret dX12_named_12 rfl rfl ?_
    first
    | (rw [(hq 0 (by decide)).mp ((lg_cmp_eq _ _).mp c1)] at h; exact h)
    | (rw [(hq 1 (by decide)).mp ((lg_cmp_eq _ _).mp c1)] at h; exact h)
    | (rw [(hq 2 (by decide)).mp ((lg_cmp_eq _ _).mp c1)] at h; exact h)
    | (rw [(hq 3 (by decide)).mp ((lg_cmp_eq _ _).mp c1)] at h; exact h)
    | (rw [(hq 4 (by decide)).mp ((lg_cmp_eq _ _).mp c1)] at h; exact h)
    | (rw [(hq 5 (by decide)).mp ((lg_cmp_eq _ _).mp c1)] at h; exact h)
    | (rw [(hq 6 (by decide)).mp ((lg_cmp_eq _ _).mp c1)] at h; exact h)
    | (rw [(hq 7 (by decide)).mp ((lg_cmp_eq _ _).mp c1)] at h; exact h)
    | (rw [(hq 9 (by decide)).mp ((lg_cmp_eq _ _).mp c1)] at h; exact h)
    | (rw [(hq 10 (by decide)).mp ((lg_cmp_eq _ _).mp c1)] at h; exact h)
    | (rw [(hq 11 (by decide)).mp ((lg_cmp_eq _ _).mp c1)] at h; exact h)
    | (rw [(hq 12 (by decide)).mp ((lg_cmp_eq _ _).mp c1)] at h; exact h)
    | (rw [(hq 13 (by decide)).mp ((lg_cmp_eq _ _).mp c1)] at h; exact h)
    | (rw [(hq 8 (by decide)).mp ((lg_cmp_eq _ _).mp c1)] at h; exact h)
    | (rw [show nmI x.1.2.1 = -1 from if_neg hno] at h; exact h)
set_option maxRecDepth 100000 in
set_option maxHeartbeats 1000000 in
theorem tM_op_is {d : Nat} {Φ : Option Int32 → Mem → Prop} {M0 N : Mem} {n : Nat} {x : PSt} {ws : List Nat} {a b : Int32} (hc : PQ M0 N n x ws) (h1 : x.1.1 = 2 ∨ x.1.1 = 3 → JM noRo (d + 3) mX12_operand 77 [some (.ref 62), some (.int a), some (.int b), some (.int 1)] [] N Φ) (h0 : ¬ (x.1.1 = 2 ∨ x.1.1 = 3) → JM noRo (d + 3) mX12_operand 77 [some (.ref 62), some (.int a), some (.int b), some (.int 0)] [] N Φ) : JM noRo (d + 3) mX12_operand 0 [some (.ref 62), some (.int a), some (.int b)] [] N Φ := by
  have h256 := hc.2.2.2.1.2.2.2.2.2.2.1
  have h19 := hc.2.2.2.1.2.2.2.2.2.2.2.2
  refine J_aload_n dX12_operand_0 rfl ?_
  refine M_getI dX12_operand_1 fX12_177 rfl rfl (by decide) ?_
  rw [hc.2.2.1.2.1]
  refine J_iconst (v := 2) dX12_operand_4 (by decide) ?_
  refine J_icmp_eq (tgt := 71) dX12_operand_5 (by decide) (fun c1 => ?_) (fun c1 => ?_)
  · -- to 71
    refine J_iconst (v := 1) dX12_operand_71 (by decide) ?_
    refine J_goto (tgt := 76) dX12_operand_72 (by decide) ?_
    refine J_istore_n dX12_operand_76 (by decide) rfl ?_
    dsimp only [setL]
    exact h1 (by first | exact Or.inl ((srt_2 h256).mp c1) | exact Or.inr (by
      rcases id hS with q | q
      · exact q
      · have hh : x.1.1 = 14 ∨ x.1.1 = 15 ∨ x.1.1 = 16 ∨ x.1.1 = 17 ∨ x.1.1 = 18 := by omega
        rcases hh with e | e | e | e | e
        · exact absurd ((lg_cmp_eq _ _).mpr ((wd_eq (v := 14) hc.2.2.1 hS (by decide)).mpr (by rw [if_neg (by omega)]; exact e))) c3
        · exact absurd ((lg_cmp_eq _ _).mpr ((wd_eq (v := 15) hc.2.2.1 hS (by decide)).mpr (by rw [if_neg (by omega)]; exact e))) c4
        · exact absurd ((lg_cmp_eq _ _).mpr ((wd_eq (v := 16) hc.2.2.1 hS (by decide)).mpr (by rw [if_neg (by omega)]; exact e))) c5
        · exact absurd ((lg_cmp_eq _ _).mpr ((wd_eq (v := 17) hc.2.2.1 hS (by decide)).mpr (by rw [if_neg (by omega)]; exact e))) c6
        · exact absurd ((lg_cmp_eq _ _).mpr ((wd_eq (v := 18) hc.2.2.1 hS (by decide)).mpr (by rw [if_neg (by omega)]; exact e))) c7))
  · -- on 8
    have cTwo := c1
    refine J_aload_n dX12_operand_8 rfl ?_
    refine M_getI dX12_operand_9 fX12_177 rfl rfl (by decide) ?_
    rw [hc.2.2.1.2.1]
    refine J_iconst (v := 1) dX12_operand_12 (by decide) ?_
    refine J_icmp_ne (tgt := 75) dX12_operand_13 (by decide) (fun c2 => ?_) (fun c2 => ?_)
    · -- to 75
      refine J_iconst (v := 0) dX12_operand_75 (by decide) ?_
      refine J_istore_n dX12_operand_76 (by decide) rfl ?_
      dsimp only [setL]
      refine h0 (fun q => ?_)
      first
      | exact cTwo ((srt_2 h256).mpr (q.resolve_right (fun e => c2 ((srt_1 h256 h19).mpr (Or.inl e)))))
      | (have hz : ∃ v, 14 ≤ v ∧ v < 19 ∧ (if x.1.1 = 3 then x.1.2.1 else x.1.1) = v := by
           first
           | exact ⟨14, by decide, by decide, (wd_eq hc.2.2.1 hS (by decide)).mp ((lg_cmp_eq _ _).mp c2)⟩
           | exact ⟨15, by decide, by decide, (wd_eq hc.2.2.1 hS (by decide)).mp ((lg_cmp_eq _ _).mp c2)⟩
           | exact ⟨16, by decide, by decide, (wd_eq hc.2.2.1 hS (by decide)).mp ((lg_cmp_eq _ _).mp c2)⟩
           | exact ⟨17, by decide, by decide, (wd_eq hc.2.2.1 hS (by decide)).mp ((lg_cmp_eq _ _).mp c2)⟩
           | exact ⟨18, by decide, by decide, (wd_eq hc.2.2.1 hS (by decide)).mp ((lg_cmp_eq _ _).mp c2)⟩
         obtain ⟨v, v1, v2, v3⟩ := hz
         by_cases e : x.1.1 = 3
         · rw [if_pos e] at v3
           rcases hc.2.2.2.1.2.2.2.2.2.1 e with z | z <;> omega
         · rw [if_neg e] at v3
           omega)
    · -- on 16
      have hS := (srt_1 h256 h19).mp c2
      refine J_aload_n dX12_operand_16 rfl ?_
      refine M_getL dX12_operand_17 fX12_170 rfl rfl (by decide) ?_
      refine J_ldc2 dX12_operand_20 ccX12_248 ?_
      refine J_lcmp dX12_operand_23 ?_
      refine J_if_eq (tgt := 75) dX12_operand_24 (by decide) (fun c3 => ?_) (fun c3 => ?_)
      · -- to 75
        refine J_iconst (v := 0) dX12_operand_75 (by decide) ?_
        refine J_istore_n dX12_operand_76 (by decide) rfl ?_
        dsimp only [setL]
        refine h0 (fun q => ?_)
        first
        | exact cTwo ((srt_2 h256).mpr (q.resolve_right (fun e => c3 ((srt_1 h256 h19).mpr (Or.inl e)))))
        | (have hz : ∃ v, 14 ≤ v ∧ v < 19 ∧ (if x.1.1 = 3 then x.1.2.1 else x.1.1) = v := by
             first
             | exact ⟨14, by decide, by decide, (wd_eq hc.2.2.1 hS (by decide)).mp ((lg_cmp_eq _ _).mp c3)⟩
             | exact ⟨15, by decide, by decide, (wd_eq hc.2.2.1 hS (by decide)).mp ((lg_cmp_eq _ _).mp c3)⟩
             | exact ⟨16, by decide, by decide, (wd_eq hc.2.2.1 hS (by decide)).mp ((lg_cmp_eq _ _).mp c3)⟩
             | exact ⟨17, by decide, by decide, (wd_eq hc.2.2.1 hS (by decide)).mp ((lg_cmp_eq _ _).mp c3)⟩
             | exact ⟨18, by decide, by decide, (wd_eq hc.2.2.1 hS (by decide)).mp ((lg_cmp_eq _ _).mp c3)⟩
           obtain ⟨v, v1, v2, v3⟩ := hz
           by_cases e : x.1.1 = 3
           · rw [if_pos e] at v3
             rcases hc.2.2.2.1.2.2.2.2.2.1 e with z | z <;> omega
           · rw [if_neg e] at v3
             omega)
      · -- on 27
        refine J_aload_n dX12_operand_27 rfl ?_
        refine M_getL dX12_operand_28 fX12_170 rfl rfl (by decide) ?_
        refine J_ldc2 dX12_operand_31 ccX12_250 ?_
        refine J_lcmp dX12_operand_34 ?_
        refine J_if_eq (tgt := 75) dX12_operand_35 (by decide) (fun c4 => ?_) (fun c4 => ?_)
        · -- to 75
          refine J_iconst (v := 0) dX12_operand_75 (by decide) ?_
          refine J_istore_n dX12_operand_76 (by decide) rfl ?_
          dsimp only [setL]
          refine h0 (fun q => ?_)
          first
          | exact cTwo ((srt_2 h256).mpr (q.resolve_right (fun e => c4 ((srt_1 h256 h19).mpr (Or.inl e)))))
          | (have hz : ∃ v, 14 ≤ v ∧ v < 19 ∧ (if x.1.1 = 3 then x.1.2.1 else x.1.1) = v := by
               first
               | exact ⟨14, by decide, by decide, (wd_eq hc.2.2.1 hS (by decide)).mp ((lg_cmp_eq _ _).mp c4)⟩
               | exact ⟨15, by decide, by decide, (wd_eq hc.2.2.1 hS (by decide)).mp ((lg_cmp_eq _ _).mp c4)⟩
               | exact ⟨16, by decide, by decide, (wd_eq hc.2.2.1 hS (by decide)).mp ((lg_cmp_eq _ _).mp c4)⟩
               | exact ⟨17, by decide, by decide, (wd_eq hc.2.2.1 hS (by decide)).mp ((lg_cmp_eq _ _).mp c4)⟩
               | exact ⟨18, by decide, by decide, (wd_eq hc.2.2.1 hS (by decide)).mp ((lg_cmp_eq _ _).mp c4)⟩
             obtain ⟨v, v1, v2, v3⟩ := hz
             by_cases e : x.1.1 = 3
             · rw [if_pos e] at v3
               rcases hc.2.2.2.1.2.2.2.2.2.1 e with z | z <;> omega
             · rw [if_neg e] at v3
               omega)
        · -- on 38
          refine J_aload_n dX12_operand_38 rfl ?_
          refine M_getL dX12_operand_39 fX12_170 rfl rfl (by decide) ?_
          refine J_ldc2 dX12_operand_42 ccX12_252 ?_
          refine J_lcmp dX12_operand_45 ?_
          refine J_if_eq (tgt := 75) dX12_operand_46 (by decide) (fun c5 => ?_) (fun c5 => ?_)
          · -- to 75
            refine J_iconst (v := 0) dX12_operand_75 (by decide) ?_
            refine J_istore_n dX12_operand_76 (by decide) rfl ?_
            dsimp only [setL]
            refine h0 (fun q => ?_)
            first
            | exact cTwo ((srt_2 h256).mpr (q.resolve_right (fun e => c5 ((srt_1 h256 h19).mpr (Or.inl e)))))
            | (have hz : ∃ v, 14 ≤ v ∧ v < 19 ∧ (if x.1.1 = 3 then x.1.2.1 else x.1.1) = v := by
                 first
                 | exact ⟨14, by decide, by decide, (wd_eq hc.2.2.1 hS (by decide)).mp ((lg_cmp_eq _ _).mp c5)⟩
                 | exact ⟨15, by decide, by decide, (wd_eq hc.2.2.1 hS (by decide)).mp ((lg_cmp_eq _ _).mp c5)⟩
                 | exact ⟨16, by decide, by decide, (wd_eq hc.2.2.1 hS (by decide)).mp ((lg_cmp_eq _ _).mp c5)⟩
                 | exact ⟨17, by decide, by decide, (wd_eq hc.2.2.1 hS (by decide)).mp ((lg_cmp_eq _ _).mp c5)⟩
                 | exact ⟨18, by decide, by decide, (wd_eq hc.2.2.1 hS (by decide)).mp ((lg_cmp_eq _ _).mp c5)⟩
               obtain ⟨v, v1, v2, v3⟩ := hz
               by_cases e : x.1.1 = 3
               · rw [if_pos e] at v3
                 rcases hc.2.2.2.1.2.2.2.2.2.1 e with z | z <;> omega
               · rw [if_neg e] at v3
                 omega)
          · -- on 49
            refine J_aload_n dX12_operand_49 rfl ?_
            refine M_getL dX12_operand_50 fX12_170 rfl rfl (by decide) ?_
            refine J_ldc2 dX12_operand_53 ccX12_254 ?_
            refine J_lcmp dX12_operand_56 ?_
            refine J_if_eq (tgt := 75) dX12_operand_57 (by decide) (fun c6 => ?_) (fun c6 => ?_)
            · -- to 75
              refine J_iconst (v := 0) dX12_operand_75 (by decide) ?_
              refine J_istore_n dX12_operand_76 (by decide) rfl ?_
              dsimp only [setL]
              refine h0 (fun q => ?_)
              first
              | exact cTwo ((srt_2 h256).mpr (q.resolve_right (fun e => c6 ((srt_1 h256 h19).mpr (Or.inl e)))))
              | (have hz : ∃ v, 14 ≤ v ∧ v < 19 ∧ (if x.1.1 = 3 then x.1.2.1 else x.1.1) = v := by
                   first
                   | exact ⟨14, by decide, by decide, (wd_eq hc.2.2.1 hS (by decide)).mp ((lg_cmp_eq _ _).mp c6)⟩
                   | exact ⟨15, by decide, by decide, (wd_eq hc.2.2.1 hS (by decide)).mp ((lg_cmp_eq _ _).mp c6)⟩
                   | exact ⟨16, by decide, by decide, (wd_eq hc.2.2.1 hS (by decide)).mp ((lg_cmp_eq _ _).mp c6)⟩
                   | exact ⟨17, by decide, by decide, (wd_eq hc.2.2.1 hS (by decide)).mp ((lg_cmp_eq _ _).mp c6)⟩
                   | exact ⟨18, by decide, by decide, (wd_eq hc.2.2.1 hS (by decide)).mp ((lg_cmp_eq _ _).mp c6)⟩
                 obtain ⟨v, v1, v2, v3⟩ := hz
                 by_cases e : x.1.1 = 3
                 · rw [if_pos e] at v3
                   rcases hc.2.2.2.1.2.2.2.2.2.1 e with z | z <;> omega
                 · rw [if_neg e] at v3
                   omega)
            · -- on 60
              refine J_aload_n dX12_operand_60 rfl ?_
              refine M_getL dX12_operand_61 fX12_170 rfl rfl (by decide) ?_
              refine J_ldc2 dX12_operand_64 ccX12_256 ?_
              refine J_lcmp dX12_operand_67 ?_
              refine J_if_eq (tgt := 75) dX12_operand_68 (by decide) (fun c7 => ?_) (fun c7 => ?_)
              · -- to 75
                refine J_iconst (v := 0) dX12_operand_75 (by decide) ?_
                refine J_istore_n dX12_operand_76 (by decide) rfl ?_
                dsimp only [setL]
                refine h0 (fun q => ?_)
                first
                | exact cTwo ((srt_2 h256).mpr (q.resolve_right (fun e => c7 ((srt_1 h256 h19).mpr (Or.inl e)))))
                | (have hz : ∃ v, 14 ≤ v ∧ v < 19 ∧ (if x.1.1 = 3 then x.1.2.1 else x.1.1) = v := by
                     first
                     | exact ⟨14, by decide, by decide, (wd_eq hc.2.2.1 hS (by decide)).mp ((lg_cmp_eq _ _).mp c7)⟩
                     | exact ⟨15, by decide, by decide, (wd_eq hc.2.2.1 hS (by decide)).mp ((lg_cmp_eq _ _).mp c7)⟩
                     | exact ⟨16, by decide, by decide, (wd_eq hc.2.2.1 hS (by decide)).mp ((lg_cmp_eq _ _).mp c7)⟩
                     | exact ⟨17, by decide, by decide, (wd_eq hc.2.2.1 hS (by decide)).mp ((lg_cmp_eq _ _).mp c7)⟩
                     | exact ⟨18, by decide, by decide, (wd_eq hc.2.2.1 hS (by decide)).mp ((lg_cmp_eq _ _).mp c7)⟩
                   obtain ⟨v, v1, v2, v3⟩ := hz
                   by_cases e : x.1.1 = 3
                   · rw [if_pos e] at v3
                     rcases hc.2.2.2.1.2.2.2.2.2.1 e with z | z <;> omega
                   · rw [if_neg e] at v3
                     omega)
              · -- on 71
                refine J_iconst (v := 1) dX12_operand_71 (by decide) ?_
                refine J_goto (tgt := 76) dX12_operand_72 (by decide) ?_
                refine J_istore_n dX12_operand_76 (by decide) rfl ?_
                dsimp only [setL]
                exact h1 (by first | exact Or.inl ((srt_2 h256).mp c7) | exact Or.inr (by
                  rcases id hS with q | q
                  · exact q
                  · have hh : x.1.1 = 14 ∨ x.1.1 = 15 ∨ x.1.1 = 16 ∨ x.1.1 = 17 ∨ x.1.1 = 18 := by omega
                    rcases hh with e | e | e | e | e
                    · exact absurd ((lg_cmp_eq _ _).mpr ((wd_eq (v := 14) hc.2.2.1 hS (by decide)).mpr (by rw [if_neg (by omega)]; exact e))) c3
                    · exact absurd ((lg_cmp_eq _ _).mpr ((wd_eq (v := 15) hc.2.2.1 hS (by decide)).mpr (by rw [if_neg (by omega)]; exact e))) c4
                    · exact absurd ((lg_cmp_eq _ _).mpr ((wd_eq (v := 16) hc.2.2.1 hS (by decide)).mpr (by rw [if_neg (by omega)]; exact e))) c5
                    · exact absurd ((lg_cmp_eq _ _).mpr ((wd_eq (v := 17) hc.2.2.1 hS (by decide)).mpr (by rw [if_neg (by omega)]; exact e))) c6
                    · exact absurd ((lg_cmp_eq _ _).mpr ((wd_eq (v := 18) hc.2.2.1 hS (by decide)).mpr (by rw [if_neg (by omega)]; exact e))) c7))
