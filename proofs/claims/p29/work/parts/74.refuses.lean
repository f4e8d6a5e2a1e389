/-! THE LAW's refuses (written by wip/p29/gen_ref.py) -/
section LJOIN
variable {E : zE} {l : Launch} {y : MethodName} {cc : ByteArray} {nL : Nat} {ret : Option FieldType} {hh : List (Nat × Nat × Nat × Nat)} {R : Room} {mc ms : Nat} {Q : zQ} {k n : Nat} {G : zG} {I : zI} {sz pc : Nat} {lv : List (Option Value)} {st : List Value}
theorem v_jv (pc2 : Nat) (x : Int32) (h : z_V E l (y, cc, nL, ret, hh) R mc ms Q k n G I sz pc2 lv (.int x :: st) → z_V E l (y, cc, nL, ret, hh) R mc ms Q k n G I sz pc lv st) (hJ : z_V E l (y, cc, nL, ret, hh) R mc ms Q k n G I sz pc2 lv (.int x :: st)) : z_V E l (y, cc, nL, ret, hh) R mc ms Q k n G I sz pc lv st := h hJ
theorem v_jn (pc2 : Nat) (h : z_V E l (y, cc, nL, ret, hh) R mc ms Q k n G I sz pc2 lv st → z_V E l (y, cc, nL, ret, hh) R mc ms Q k n G I sz pc lv st) (hJ : z_V E l (y, cc, nL, ret, hh) R mc ms Q k n G I sz pc2 lv st) : z_V E l (y, cc, nL, ret, hh) R mc ms Q k n G I sz pc lv st := h hJ
end LJOIN
section LREF
variable {E : zE} {l : Launch} {G : zG} {I : zI} {sz c : Nat} {S : zS}
set_option maxRecDepth 20000 in
set_option maxHeartbeats 4000000 in
theorem c_refuses (hl : l.stackTraces = false) (hK : ShK E G c) (hA : AbsK I c S) (h1 : 1 ≤ cnt S.1) (m : Nat) (hm : m < 100000) : z_K1 E l mL_refuses 11 40 240 [.ref c, .int (nI m)] G I sz c 1 S := by
  refine z_Ct.of hl pn_L [some (.ref c), some (.int (nI m)), none, none] rfl (Nat.le_of_ble_eq_true rfl) ?_
  have hF : FrK I I c := FrK.rf
  have hW : WF S.1 := hA.2.2.1
  have e2 : nI m - nI m / 2 * 2 = nI (m % 2) := rm (d := 2) (by omega) (by omega) (by omega)
  have l2 := Nat.mod_lt m (show 0 < 2 by omega)
  have e9 : nI m - nI m / 9 * 9 = nI (m % 9) := rm (d := 9) (by omega) (by omega) (by omega)
  have l9 := Nat.mod_lt m (show 0 < 9 by omega)
  have e12 : nI m - nI m / 12 * 12 = nI (m % 12) := rm (d := 12) (by omega) (by omega) (by omega)
  have l12 := Nat.mod_lt m (show 0 < 12 by omega)
  have e50 : nI m - nI m / 50 * 50 = nI (m % 50) := rm (d := 50) (by omega) (by omega) (by omega)
  have l50 := Nat.mod_lt m (show 0 < 50 by omega)
  have e99 : nI m - nI m / 99 * 99 = nI (m % 99) := rm (d := 99) (by omega) (by omega) (by omega)
  have l99 := Nat.mod_lt m (show 0 < 99 by omega)
  have hfar : p_isTask S.1 (S.1 0 + (nI m - nI m / 50 * 50)) = false := by rw [e50]; exact far_out hW h1 (by omega)
  have hno : z_in (if nI m - nI m / 2 * 2 = 0 then -1 - (nI m - nI m / 99 * 99) else 12 + (nI m - nI m / 99 * 99)) 0 11 = false := by
    split
    · rw [e99]; exact o_lo (by omega) (by decide)
    · rw [e99]; exact o_hi 12 _ 11 (by omega) (by omega)
  have hap : z_in (if nI m - nI m / 2 * 2 = 0 then -1 - (nI m - nI m / 9 * 9) else 256 + (nI m - nI m / 9 * 9)) 0 255 = false := by
    split
    · rw [e9]; exact o_lo (by omega) (by decide)
    · rw [e9]; exact o_hi 256 _ 255 (by omega) (by omega)
  have hw0 : z_in (if nI m - nI m / 2 * 2 = 0 then 0 else 7 + (nI m - nI m / 9 * 9)) 1 6 = false := by
    split
    · decide
    · rw [e9]; exact o_hi 7 _ 6 (by omega) (by omega)
  refine v_aload_n (pc' := 1) dL_refuses_0 rfl rfl ?_
  refine v_iconst (pc' := 2) dL_refuses_1 kc_2 rfl ?_
  refine v_iconst (pc' := 3) dL_refuses_2 kc_0 rfl ?_
  refine v_iconst (pc' := 4) dL_refuses_3 kc_0 rfl ?_
  refine v_iconst (pc' := 5) dL_refuses_4 kc_0 rfl ?_
  refine v_k1 (na := 5) (pc' := 8) (z_K1.to (call_2 hl hK hA _ _ _) (x_ab0) (rfl)) hF dL_refuses_5 lk_L_164 mwL_call msL_call rfl rfl (by decide) ⟨by omega, by omega⟩ (Nat.le_of_ble_eq_true rfl) rfl ?_
  intro I1 s1 hA1 hF1
  refine v_iload_n (pc' := 9) dL_refuses_8 rfl rfl ?_
  refine v_bipush (pc' := 11) dL_refuses_9 kb_50 rfl ?_
  refine v_irem (pc' := 12) dL_refuses_11 (by decide) rfl ?_
  refine v_iadd (pc' := 13) dL_refuses_12 rfl ?_
  refine v_istore_n2 (pc' := 14) dL_refuses_13 (by decide) rfl rfl ?_
  refine v_jv 36 (if nI m - nI m / 2 * 2 = 0 then -1 - (nI m - nI m / 99 * 99) else 12 + (nI m - nI m / 99 * 99)) (fun J_14 => ?_) ?_
  · refine v_iload_n (pc' := 15) dL_refuses_14 rfl rfl ?_
    refine v_iconst (pc' := 16) dL_refuses_15 kc_2 rfl ?_
    refine v_irem (pc' := 17) dL_refuses_16 (by decide) rfl ?_
    refine v_if_ne (tgt := 29) (pc' := 20) dL_refuses_17 (by decide) rfl (fun c_17 => ?_) (fun c_17 => ?_)
    · refine v_bipush (pc' := 31) dL_refuses_29 kb_12 rfl ?_
      refine v_iload_n (pc' := 32) dL_refuses_31 rfl rfl ?_
      refine v_bipush (pc' := 34) dL_refuses_32 kb_99 rfl ?_
      refine v_irem (pc' := 35) dL_refuses_34 (by decide) rfl ?_
      refine v_iadd (pc' := 36) dL_refuses_35 rfl ?_
      exact v_top J_14 (if_neg c_17)
    · refine v_iconst (pc' := 21) dL_refuses_20 kc_m1 rfl ?_
      refine v_iload_n (pc' := 22) dL_refuses_21 rfl rfl ?_
      refine v_bipush (pc' := 24) dL_refuses_22 kb_99 rfl ?_
      refine v_irem (pc' := 25) dL_refuses_24 (by decide) rfl ?_
      refine v_isub (pc' := 26) dL_refuses_25 rfl ?_
      refine v_goto (tgt := 36) dL_refuses_26 (by decide) ?_
      exact v_top J_14 (if_pos c_17)
  generalize (if nI m - nI m / 2 * 2 = 0 then -1 - (nI m - nI m / 99 * 99) else 12 + (nI m - nI m / 99 * 99)) = no at hno ⊢
  generalize hfr : S.1 0 + (nI m - nI m / 50 * 50) = far at hfar ⊢
  refine v_istore_n3 (pc' := 37) dL_refuses_36 (by decide) rfl rfl ?_
  refine v_aload_n (pc' := 38) dL_refuses_37 rfl rfl ?_
  refine v_iconst (pc' := 39) dL_refuses_38 kc_0 rfl ?_
  refine v_jv 62 (if nI m - nI m / 2 * 2 = 0 then -1 - (nI m - nI m / 9 * 9) else 256 + (nI m - nI m / 9 * 9)) (fun J_39 => ?_) ?_
  · refine v_iload_n (pc' := 40) dL_refuses_39 rfl rfl ?_
    refine v_iconst (pc' := 41) dL_refuses_40 kc_2 rfl ?_
    refine v_irem (pc' := 42) dL_refuses_41 (by decide) rfl ?_
    refine v_if_ne (tgt := 54) (pc' := 45) dL_refuses_42 (by decide) rfl (fun c_42 => ?_) (fun c_42 => ?_)
    · refine v_sipush (pc' := 57) dL_refuses_54 ks_256 rfl ?_
      refine v_iload_n (pc' := 58) dL_refuses_57 rfl rfl ?_
      refine v_bipush (pc' := 60) dL_refuses_58 kb_9 rfl ?_
      refine v_irem (pc' := 61) dL_refuses_60 (by decide) rfl ?_
      refine v_iadd (pc' := 62) dL_refuses_61 rfl ?_
      exact v_top J_39 (if_neg c_42)
    · refine v_iconst (pc' := 46) dL_refuses_45 kc_m1 rfl ?_
      refine v_iload_n (pc' := 47) dL_refuses_46 rfl rfl ?_
      refine v_bipush (pc' := 49) dL_refuses_47 kb_9 rfl ?_
      refine v_irem (pc' := 50) dL_refuses_49 (by decide) rfl ?_
      refine v_isub (pc' := 51) dL_refuses_50 rfl ?_
      refine v_goto (tgt := 62) dL_refuses_51 (by decide) ?_
      exact v_top J_39 (if_pos c_42)
  generalize (if nI m - nI m / 2 * 2 = 0 then -1 - (nI m - nI m / 9 * 9) else 256 + (nI m - nI m / 9 * 9)) = ap at hap ⊢
  refine v_iconst (pc' := 63) dL_refuses_62 kc_0 rfl ?_
  refine v_iconst (pc' := 64) dL_refuses_63 kc_0 rfl ?_
  refine v_k1 (na := 5) (pc' := 67) (z_K1.to (call_0 hl hK hA1 _ _ _) ((r_append hap).1) ((r_append hap).2)) hF1 dL_refuses_64 lk_L_164 mwL_call msL_call rfl rfl (by decide) ⟨by omega, by omega⟩ (Nat.le_of_ble_eq_true rfl) rfl ?_
  intro I2 s2 hA2 hF2
  refine v_ldc (pc' := 69) dL_refuses_67 ck_L_15 rfl ?_
  refine v_icmp_ne (tgt := 670) (pc' := 72) dL_refuses_69 (by decide) rfl (fun c_69 => ?_) (fun c_69 => ?_)
  · exact absurd rfl c_69
  · refine v_aload_n (pc' := 73) dL_refuses_72 rfl rfl ?_
    refine v_iconst (pc' := 74) dL_refuses_73 kc_2 rfl ?_
    refine v_bipush (pc' := 76) dL_refuses_74 kb_9 rfl ?_
    refine v_iload_n (pc' := 77) dL_refuses_76 rfl rfl ?_
    refine v_bipush (pc' := 79) dL_refuses_77 kb_50 rfl ?_
    refine v_irem (pc' := 80) dL_refuses_79 (by decide) rfl ?_
    refine v_iadd (pc' := 81) dL_refuses_80 rfl ?_
    refine v_iconst (pc' := 82) dL_refuses_81 kc_0 rfl ?_
    refine v_iconst (pc' := 83) dL_refuses_82 kc_0 rfl ?_
    refine v_k1 (na := 5) (pc' := 86) (z_K1.to (call_2 hl hK hA2 _ _ _) (r_about (by rw [e50]; exact o_hi 9 _ 8 (by omega) (by omega))) (rfl)) hF2 dL_refuses_83 lk_L_164 mwL_call msL_call rfl rfl (by decide) ⟨by omega, by omega⟩ (Nat.le_of_ble_eq_true rfl) rfl ?_
    intro I3 s3 hA3 hF3
    refine v_ldc (pc' := 88) dL_refuses_86 ck_L_15 rfl ?_
    refine v_icmp_ne (tgt := 670) (pc' := 91) dL_refuses_88 (by decide) rfl (fun c_88 => ?_) (fun c_88 => ?_)
    · exact absurd rfl c_88
    · refine v_aload_n (pc' := 92) dL_refuses_91 rfl rfl ?_
      refine v_iconst (pc' := 93) dL_refuses_92 kc_3 rfl ?_
      refine v_iload_n (pc' := 94) dL_refuses_93 rfl rfl ?_
      refine v_bipush (pc' := 96) dL_refuses_94 kb_9 rfl ?_
      refine v_iconst (pc' := 97) dL_refuses_96 kc_0 rfl ?_
      refine v_k1 (na := 5) (pc' := 100) (z_K1.to (call_3 hl hK hA3 _ _ _) (r_task1 hfar) (rfl)) hF3 dL_refuses_97 lk_L_164 mwL_call msL_call rfl rfl (by decide) ⟨by omega, by omega⟩ (Nat.le_of_ble_eq_true rfl) rfl ?_
      intro I4 s4 hA4 hF4
      refine v_ldc (pc' := 102) dL_refuses_100 ck_L_40 rfl ?_
      refine v_icmp_ne (tgt := 670) (pc' := 105) dL_refuses_102 (by decide) rfl (fun c_102 => ?_) (fun c_102 => ?_)
      · exact absurd rfl c_102
      · refine v_aload_n (pc' := 106) dL_refuses_105 rfl rfl ?_
        refine v_iconst (pc' := 107) dL_refuses_106 kc_3 rfl ?_
        refine v_iconst (pc' := 108) dL_refuses_107 kc_0 rfl ?_
        refine v_bipush (pc' := 110) dL_refuses_108 kb_6 rfl ?_
        refine v_iload_n (pc' := 111) dL_refuses_110 rfl rfl ?_
        refine v_bipush (pc' := 113) dL_refuses_111 kb_9 rfl ?_
        refine v_irem (pc' := 114) dL_refuses_113 (by decide) rfl ?_
        refine v_iadd (pc' := 115) dL_refuses_114 rfl ?_
        refine v_iconst (pc' := 116) dL_refuses_115 kc_0 rfl ?_
        refine v_k1 (na := 5) (pc' := 119) (z_K1.to (call_3 hl hK hA4 _ _ _) (r_task2 (p_isTask_of hW (u := 0) (by omega)) (by rw [e9]; exact o_hi 6 _ 5 (by omega) (by omega))) (rfl)) hF4 dL_refuses_116 lk_L_164 mwL_call msL_call rfl rfl (by decide) ⟨by omega, by omega⟩ (Nat.le_of_ble_eq_true rfl) rfl ?_
        intro I5 s5 hA5 hF5
        refine v_ldc (pc' := 121) dL_refuses_119 ck_L_15 rfl ?_
        refine v_icmp_ne (tgt := 670) (pc' := 124) dL_refuses_121 (by decide) rfl (fun c_121 => ?_) (fun c_121 => ?_)
        · exact absurd rfl c_121
        · refine v_aload_n (pc' := 125) dL_refuses_124 rfl rfl ?_
          refine v_iconst (pc' := 126) dL_refuses_125 kc_4 rfl ?_
          refine v_iload_n (pc' := 127) dL_refuses_126 rfl rfl ?_
          refine v_bipush (pc' := 129) dL_refuses_127 kb_9 rfl ?_
          refine v_iconst (pc' := 130) dL_refuses_129 kc_0 rfl ?_
          refine v_k1 (na := 5) (pc' := 133) (z_K1.to (call_4 hl hK hA5 _ _ _) (r_str1 hno) (rfl)) hF5 dL_refuses_130 lk_L_164 mwL_call msL_call rfl rfl (by decide) ⟨by omega, by omega⟩ (Nat.le_of_ble_eq_true rfl) rfl ?_
          intro I6 s6 hA6 hF6
          refine v_ldc (pc' := 135) dL_refuses_133 ck_L_40 rfl ?_
          refine v_icmp_ne (tgt := 670) (pc' := 138) dL_refuses_135 (by decide) rfl (fun c_135 => ?_) (fun c_135 => ?_)
          · exact absurd rfl c_135
          · refine v_aload_n (pc' := 139) dL_refuses_138 rfl rfl ?_
            refine v_iconst (pc' := 140) dL_refuses_139 kc_4 rfl ?_
            refine v_iload_n (pc' := 141) dL_refuses_140 rfl rfl ?_
            refine v_bipush (pc' := 143) dL_refuses_141 kb_12 rfl ?_
            refine v_irem (pc' := 144) dL_refuses_143 (by decide) rfl ?_
            refine v_iconst (pc' := 145) dL_refuses_144 kc_3 rfl ?_
            refine v_iload_n (pc' := 146) dL_refuses_145 rfl rfl ?_
            refine v_bipush (pc' := 148) dL_refuses_146 kb_9 rfl ?_
            refine v_irem (pc' := 149) dL_refuses_148 (by decide) rfl ?_
            refine v_iadd (pc' := 150) dL_refuses_149 rfl ?_
            refine v_iconst (pc' := 151) dL_refuses_150 kc_0 rfl ?_
            refine v_k1 (na := 5) (pc' := 154) (z_K1.to (call_4 hl hK hA6 _ _ _) (r_str2 (by rw [e12]; exact p_isStripe_of (by omega)) (by rw [e9]; exact o_hi 3 _ 2 (by omega) (by omega))) (rfl)) hF6 dL_refuses_151 lk_L_164 mwL_call msL_call rfl rfl (by decide) ⟨by omega, by omega⟩ (Nat.le_of_ble_eq_true rfl) rfl ?_
            intro I7 s7 hA7 hF7
            refine v_ldc (pc' := 156) dL_refuses_154 ck_L_15 rfl ?_
            refine v_icmp_ne (tgt := 670) (pc' := 159) dL_refuses_156 (by decide) rfl (fun c_156 => ?_) (fun c_156 => ?_)
            · exact absurd rfl c_156
            · refine v_aload_n (pc' := 160) dL_refuses_159 rfl rfl ?_
              refine v_iconst (pc' := 161) dL_refuses_160 kc_5 rfl ?_
              refine v_iconst (pc' := 162) dL_refuses_161 kc_3 rfl ?_
              refine v_iload_n (pc' := 163) dL_refuses_162 rfl rfl ?_
              refine v_bipush (pc' := 165) dL_refuses_163 kb_9 rfl ?_
              refine v_irem (pc' := 166) dL_refuses_165 (by decide) rfl ?_
              refine v_iadd (pc' := 167) dL_refuses_166 rfl ?_
              refine v_iconst (pc' := 168) dL_refuses_167 kc_0 rfl ?_
              refine v_iconst (pc' := 169) dL_refuses_168 kc_0 rfl ?_
              refine v_k1 (na := 5) (pc' := 172) (z_K1.to (call_5 hl hK hA7 _ _ _) (r_job (by rw [e9]; exact o_hi 3 _ 2 (by omega) (by omega))) (rfl)) hF7 dL_refuses_169 lk_L_164 mwL_call msL_call rfl rfl (by decide) ⟨by omega, by omega⟩ (Nat.le_of_ble_eq_true rfl) rfl ?_
              intro I8 s8 hA8 hF8
              refine v_ldc (pc' := 174) dL_refuses_172 ck_L_15 rfl ?_
              refine v_icmp_ne (tgt := 670) (pc' := 177) dL_refuses_174 (by decide) rfl (fun c_174 => ?_) (fun c_174 => ?_)
              · exact absurd rfl c_174
              · refine v_aload_n (pc' := 178) dL_refuses_177 rfl rfl ?_
                refine v_bipush (pc' := 180) dL_refuses_178 kb_6 rfl ?_
                refine v_iconst (pc' := 181) dL_refuses_180 kc_3 rfl ?_
                refine v_iload_n (pc' := 182) dL_refuses_181 rfl rfl ?_
                refine v_bipush (pc' := 184) dL_refuses_182 kb_9 rfl ?_
                refine v_irem (pc' := 185) dL_refuses_184 (by decide) rfl ?_
                refine v_iadd (pc' := 186) dL_refuses_185 rfl ?_
                refine v_iconst (pc' := 187) dL_refuses_186 kc_0 rfl ?_
                refine v_iconst (pc' := 188) dL_refuses_187 kc_0 rfl ?_
                refine v_k1 (na := 5) (pc' := 191) (z_K1.to (call_6 hl hK hA8 _ _ _) (r_setting (by rw [e9]; exact o_hi 3 _ 2 (by omega) (by omega))) (rfl)) hF8 dL_refuses_188 lk_L_164 mwL_call msL_call rfl rfl (by decide) ⟨by omega, by omega⟩ (Nat.le_of_ble_eq_true rfl) rfl ?_
                intro I9 s9 hA9 hF9
                refine v_ldc (pc' := 193) dL_refuses_191 ck_L_15 rfl ?_
                refine v_icmp_ne (tgt := 670) (pc' := 196) dL_refuses_193 (by decide) rfl (fun c_193 => ?_) (fun c_193 => ?_)
                · exact absurd rfl c_193
                · refine v_aload_n (pc' := 197) dL_refuses_196 rfl rfl ?_
                  refine v_bipush (pc' := 199) dL_refuses_197 kb_7 rfl ?_
                  refine v_jv 216 (if nI m - nI m / 2 * 2 = 0 then 0 else 7 + (nI m - nI m / 9 * 9)) (fun J_199 => ?_) ?_
                  · refine v_iload_n (pc' := 200) dL_refuses_199 rfl rfl ?_
                    refine v_iconst (pc' := 201) dL_refuses_200 kc_2 rfl ?_
                    refine v_irem (pc' := 202) dL_refuses_201 (by decide) rfl ?_
                    refine v_if_ne (tgt := 209) (pc' := 205) dL_refuses_202 (by decide) rfl (fun c_202 => ?_) (fun c_202 => ?_)
                    · refine v_bipush (pc' := 211) dL_refuses_209 kb_7 rfl ?_
                      refine v_iload_n (pc' := 212) dL_refuses_211 rfl rfl ?_
                      refine v_bipush (pc' := 214) dL_refuses_212 kb_9 rfl ?_
                      refine v_irem (pc' := 215) dL_refuses_214 (by decide) rfl ?_
                      refine v_iadd (pc' := 216) dL_refuses_215 rfl ?_
                      exact v_top J_199 (if_neg c_202)
                    · refine v_iconst (pc' := 206) dL_refuses_205 kc_0 rfl ?_
                      refine v_goto (tgt := 216) dL_refuses_206 (by decide) ?_
                      exact v_top J_199 (if_pos c_202)
                  refine v_iconst (pc' := 217) dL_refuses_216 kc_5 rfl ?_
                  refine v_iconst (pc' := 218) dL_refuses_217 kc_0 rfl ?_
                  refine v_k1 (na := 5) (pc' := 221) (z_K1.to (call_7 hl hK hA9 _ _ _) ((r_add (by rw [hw0]; rfl)).1) ((r_add (by rw [hw0]; rfl)).2)) hF9 dL_refuses_218 lk_L_164 mwL_call msL_call rfl rfl (by decide) ⟨by omega, by omega⟩ (Nat.le_of_ble_eq_true rfl) rfl ?_
                  intro I10 s10 hA10 hF10
                  refine v_ldc (pc' := 223) dL_refuses_221 ck_L_15 rfl ?_
                  refine v_icmp_ne (tgt := 670) (pc' := 226) dL_refuses_223 (by decide) rfl (fun c_223 => ?_) (fun c_223 => ?_)
                  · exact absurd rfl c_223
                  · refine v_aload_n (pc' := 227) dL_refuses_226 rfl rfl ?_
                    refine v_bipush (pc' := 229) dL_refuses_227 kb_7 rfl ?_
                    refine v_iconst (pc' := 230) dL_refuses_229 kc_1 rfl ?_
                    refine v_iload_n (pc' := 231) dL_refuses_230 rfl rfl ?_
                    refine v_bipush (pc' := 233) dL_refuses_231 kb_6 rfl ?_
                    refine v_irem (pc' := 234) dL_refuses_233 (by decide) rfl ?_
                    refine v_iadd (pc' := 235) dL_refuses_234 rfl ?_
                    refine v_sipush (pc' := 238) dL_refuses_235 ks_997 rfl ?_
                    refine v_iload_n (pc' := 239) dL_refuses_238 rfl rfl ?_
                    refine v_bipush (pc' := 241) dL_refuses_239 kb_9 rfl ?_
                    refine v_irem (pc' := 242) dL_refuses_241 (by decide) rfl ?_
                    refine v_iadd (pc' := 243) dL_refuses_242 rfl ?_
                    refine v_iconst (pc' := 244) dL_refuses_243 kc_0 rfl ?_
                    refine v_k1 (na := 5) (pc' := 247) (z_K1.to (call_7 hl hK hA10 _ _ _) ((r_add (by rw [show z_in (997 + (nI m - nI m / 9 * 9)) 0 996 = false from by rw [e9]; exact o_hi 997 _ 996 (by omega) (by omega), Bool.and_false])).1) ((r_add (by rw [show z_in (997 + (nI m - nI m / 9 * 9)) 0 996 = false from by rw [e9]; exact o_hi 997 _ 996 (by omega) (by omega), Bool.and_false])).2)) hF10 dL_refuses_244 lk_L_164 mwL_call msL_call rfl rfl (by decide) ⟨by omega, by omega⟩ (Nat.le_of_ble_eq_true rfl) rfl ?_
                    intro I11 s11 hA11 hF11
                    refine v_ldc (pc' := 249) dL_refuses_247 ck_L_15 rfl ?_
                    refine v_icmp_ne (tgt := 670) (pc' := 252) dL_refuses_249 (by decide) rfl (fun c_249 => ?_) (fun c_249 => ?_)
                    · exact absurd rfl c_249
                    · refine v_aload_n (pc' := 253) dL_refuses_252 rfl rfl ?_
                      refine v_bipush (pc' := 255) dL_refuses_253 kb_7 rfl ?_
                      refine v_iconst (pc' := 256) dL_refuses_255 kc_1 rfl ?_
                      refine v_iload_n (pc' := 257) dL_refuses_256 rfl rfl ?_
                      refine v_bipush (pc' := 259) dL_refuses_257 kb_6 rfl ?_
                      refine v_irem (pc' := 260) dL_refuses_259 (by decide) rfl ?_
                      refine v_iadd (pc' := 261) dL_refuses_260 rfl ?_
                      refine v_iconst (pc' := 262) dL_refuses_261 kc_m1 rfl ?_
                      refine v_iload_n (pc' := 263) dL_refuses_262 rfl rfl ?_
                      refine v_bipush (pc' := 265) dL_refuses_263 kb_9 rfl ?_
                      refine v_irem (pc' := 266) dL_refuses_265 (by decide) rfl ?_
                      refine v_isub (pc' := 267) dL_refuses_266 rfl ?_
                      refine v_iconst (pc' := 268) dL_refuses_267 kc_0 rfl ?_
                      refine v_k1 (na := 5) (pc' := 271) (z_K1.to (call_7 hl hK hA11 _ _ _) ((r_add (by rw [show z_in (-1 - (nI m - nI m / 9 * 9)) 0 996 = false from by rw [e9]; exact o_lo (by omega) (by decide), Bool.and_false])).1) ((r_add (by rw [show z_in (-1 - (nI m - nI m / 9 * 9)) 0 996 = false from by rw [e9]; exact o_lo (by omega) (by decide), Bool.and_false])).2)) hF11 dL_refuses_268 lk_L_164 mwL_call msL_call rfl rfl (by decide) ⟨by omega, by omega⟩ (Nat.le_of_ble_eq_true rfl) rfl ?_
                      intro I12 s12 hA12 hF12
                      refine v_ldc (pc' := 273) dL_refuses_271 ck_L_15 rfl ?_
                      refine v_icmp_ne (tgt := 670) (pc' := 276) dL_refuses_273 (by decide) rfl (fun c_273 => ?_) (fun c_273 => ?_)
                      · exact absurd rfl c_273
                      · refine v_aload_n (pc' := 277) dL_refuses_276 rfl rfl ?_
                        refine v_bipush (pc' := 279) dL_refuses_277 kb_8 rfl ?_
                        refine v_iload_n (pc' := 280) dL_refuses_279 rfl rfl ?_
                        refine v_iconst (pc' := 281) dL_refuses_280 kc_0 rfl ?_
                        refine v_iconst (pc' := 282) dL_refuses_281 kc_0 rfl ?_
                        refine v_k1 (na := 5) (pc' := 285) (z_K1.to (call_8 hl hK hA12 _ _ _) ((r_bring (by rw [hfar]; rfl)).1) ((r_bring (by rw [hfar]; rfl)).2)) hF12 dL_refuses_282 lk_L_164 mwL_call msL_call rfl rfl (by decide) ⟨by omega, by omega⟩ (Nat.le_of_ble_eq_true rfl) rfl ?_
                        intro I13 s13 hA13 hF13
                        refine v_ldc (pc' := 287) dL_refuses_285 ck_L_40 rfl ?_
                        refine v_icmp_ne (tgt := 670) (pc' := 290) dL_refuses_287 (by decide) rfl (fun c_287 => ?_) (fun c_287 => ?_)
                        · exact absurd rfl c_287
                        · refine v_aload_n (pc' := 291) dL_refuses_290 rfl rfl ?_
                          refine v_bipush (pc' := 293) dL_refuses_291 kb_8 rfl ?_
                          refine v_iconst (pc' := 294) dL_refuses_293 kc_0 rfl ?_
                          refine v_iload_n (pc' := 295) dL_refuses_294 rfl rfl ?_
                          refine v_iconst (pc' := 296) dL_refuses_295 kc_0 rfl ?_
                          refine v_k1 (na := 5) (pc' := 299) (z_K1.to (call_8 hl hK hA13 _ _ _) ((r_bring (by rw [show p_isStripe no = false from hno, Bool.and_false])).1) ((r_bring (by rw [show p_isStripe no = false from hno, Bool.and_false])).2)) hF13 dL_refuses_296 lk_L_164 mwL_call msL_call rfl rfl (by decide) ⟨by omega, by omega⟩ (Nat.le_of_ble_eq_true rfl) rfl ?_
                          intro I14 s14 hA14 hF14
                          refine v_ldc (pc' := 301) dL_refuses_299 ck_L_40 rfl ?_
                          refine v_icmp_ne (tgt := 670) (pc' := 304) dL_refuses_301 (by decide) rfl (fun c_301 => ?_) (fun c_301 => ?_)
                          · exact absurd rfl c_301
                          · refine v_aload_n (pc' := 305) dL_refuses_304 rfl rfl ?_
                            refine v_bipush (pc' := 307) dL_refuses_305 kb_9 rfl ?_
                            refine v_iload_n (pc' := 308) dL_refuses_307 rfl rfl ?_
                            refine v_iconst (pc' := 309) dL_refuses_308 kc_0 rfl ?_
                            refine v_iconst (pc' := 310) dL_refuses_309 kc_0 rfl ?_
                            refine v_k1 (na := 5) (pc' := 313) (z_K1.to (call_9 hl hK hA14 _ _ _) ((r_stop hfar).1) ((r_stop hfar).2)) hF14 dL_refuses_310 lk_L_164 mwL_call msL_call rfl rfl (by decide) ⟨by omega, by omega⟩ (Nat.le_of_ble_eq_true rfl) rfl ?_
                            intro I15 s15 hA15 hF15
                            refine v_ldc (pc' := 315) dL_refuses_313 ck_L_40 rfl ?_
                            refine v_icmp_ne (tgt := 670) (pc' := 318) dL_refuses_315 (by decide) rfl (fun c_315 => ?_) (fun c_315 => ?_)
                            · exact absurd rfl c_315
                            · refine v_aload_n (pc' := 319) dL_refuses_318 rfl rfl ?_
                              refine v_bipush (pc' := 321) dL_refuses_319 kb_10 rfl ?_
                              refine v_iload_n (pc' := 322) dL_refuses_321 rfl rfl ?_
                              refine v_iconst (pc' := 323) dL_refuses_322 kc_0 rfl ?_
                              refine v_iconst (pc' := 324) dL_refuses_323 kc_0 rfl ?_
                              refine v_k1 (na := 5) (pc' := 327) (z_K1.to (call_10 hl hK hA15 _ _ _) ((r_bad hno).1) ((r_bad hno).2)) hF15 dL_refuses_324 lk_L_164 mwL_call msL_call rfl rfl (by decide) ⟨by omega, by omega⟩ (Nat.le_of_ble_eq_true rfl) rfl ?_
                              intro I16 s16 hA16 hF16
                              refine v_ldc (pc' := 329) dL_refuses_327 ck_L_40 rfl ?_
                              refine v_icmp_ne (tgt := 670) (pc' := 332) dL_refuses_329 (by decide) rfl (fun c_329 => ?_) (fun c_329 => ?_)
                              · exact absurd rfl c_329
                              · refine v_aload_n (pc' := 333) dL_refuses_332 rfl rfl ?_
                                refine v_bipush (pc' := 335) dL_refuses_333 kb_11 rfl ?_
                                refine v_iload_n (pc' := 336) dL_refuses_335 rfl rfl ?_
                                refine v_iconst (pc' := 337) dL_refuses_336 kc_0 rfl ?_
                                refine v_iconst (pc' := 338) dL_refuses_337 kc_0 rfl ?_
                                refine v_k1 (na := 5) (pc' := 341) (z_K1.to (call_11 hl hK hA16 _ _ _) ((r_mend hno).1) ((r_mend hno).2)) hF16 dL_refuses_338 lk_L_164 mwL_call msL_call rfl rfl (by decide) ⟨by omega, by omega⟩ (Nat.le_of_ble_eq_true rfl) rfl ?_
                                intro I17 s17 hA17 hF17
                                refine v_ldc (pc' := 343) dL_refuses_341 ck_L_40 rfl ?_
                                refine v_icmp_ne (tgt := 670) (pc' := 346) dL_refuses_343 (by decide) rfl (fun c_343 => ?_) (fun c_343 => ?_)
                                · exact absurd rfl c_343
                                · refine v_aload_n (pc' := 347) dL_refuses_346 rfl rfl ?_
                                  refine v_bipush (pc' := 349) dL_refuses_347 kb_12 rfl ?_
                                  refine v_bipush (pc' := 351) dL_refuses_349 kb_61 rfl ?_
                                  refine v_iload_n (pc' := 352) dL_refuses_351 rfl rfl ?_
                                  refine v_bipush (pc' := 354) dL_refuses_352 kb_9 rfl ?_
                                  refine v_irem (pc' := 355) dL_refuses_354 (by decide) rfl ?_
                                  refine v_iadd (pc' := 356) dL_refuses_355 rfl ?_
                                  refine v_iconst (pc' := 357) dL_refuses_356 kc_0 rfl ?_
                                  refine v_iconst (pc' := 358) dL_refuses_357 kc_0 rfl ?_
                                  refine v_k1 (na := 5) (pc' := 361) (z_K1.to (call_12 hl hK hA17 _ _ _) ((r_run (by rw [e9]; exact o_hi 61 _ 60 (by omega) (by omega))).1) ((r_run (by rw [e9]; exact o_hi 61 _ 60 (by omega) (by omega))).2)) hF17 dL_refuses_358 lk_L_164 mwL_call msL_call rfl rfl (by decide) ⟨by omega, by omega⟩ (Nat.le_of_ble_eq_true rfl) rfl ?_
                                  intro I18 s18 hA18 hF18
                                  refine v_ldc (pc' := 363) dL_refuses_361 ck_L_15 rfl ?_
                                  refine v_icmp_ne (tgt := 670) (pc' := 366) dL_refuses_363 (by decide) rfl (fun c_363 => ?_) (fun c_363 => ?_)
                                  · exact absurd rfl c_363
                                  · refine v_aload_n (pc' := 367) dL_refuses_366 rfl rfl ?_
                                    refine v_bipush (pc' := 369) dL_refuses_367 kb_13 rfl ?_
                                    refine v_iload_n (pc' := 370) dL_refuses_369 rfl rfl ?_
                                    refine v_iconst (pc' := 371) dL_refuses_370 kc_3 rfl ?_
                                    refine v_irem (pc' := 372) dL_refuses_371 (by decide) rfl ?_
                                    refine v_bipush (pc' := 374) dL_refuses_372 kb_100 rfl ?_
                                    refine v_iload_n (pc' := 375) dL_refuses_374 rfl rfl ?_
                                    refine v_bipush (pc' := 377) dL_refuses_375 kb_9 rfl ?_
                                    refine v_irem (pc' := 378) dL_refuses_377 (by decide) rfl ?_
                                    refine v_iadd (pc' := 379) dL_refuses_378 rfl ?_
                                    refine v_iconst (pc' := 380) dL_refuses_379 kc_0 rfl ?_
                                    refine v_k1 (na := 5) (pc' := 383) (z_K1.to (call_13 hl hK hA18 _ _ _) ((r_lay (set_out (by rw [e9]; exact o_hi 100 _ 9 (by omega) (by omega)) (by rw [e9]; exact o_hi 100 _ 20 (by omega) (by omega)) (by rw [e9]; exact o_hi 100 _ 99 (by omega) (by omega)))).1) ((r_lay (set_out (by rw [e9]; exact o_hi 100 _ 9 (by omega) (by omega)) (by rw [e9]; exact o_hi 100 _ 20 (by omega) (by omega)) (by rw [e9]; exact o_hi 100 _ 99 (by omega) (by omega)))).2)) hF18 dL_refuses_380 lk_L_164 mwL_call msL_call rfl rfl (by decide) ⟨by omega, by omega⟩ (Nat.le_of_ble_eq_true rfl) rfl ?_
                                    intro I19 s19 hA19 hF19
                                    refine v_ldc (pc' := 385) dL_refuses_383 ck_L_15 rfl ?_
                                    refine v_icmp_ne (tgt := 670) (pc' := 388) dL_refuses_385 (by decide) rfl (fun c_385 => ?_) (fun c_385 => ?_)
                                    · exact absurd rfl c_385
                                    · refine v_aload_n (pc' := 389) dL_refuses_388 rfl rfl ?_
                                      refine v_bipush (pc' := 391) dL_refuses_389 kb_13 rfl ?_
                                      refine v_iload_n (pc' := 392) dL_refuses_391 rfl rfl ?_
                                      refine v_iconst (pc' := 393) dL_refuses_392 kc_3 rfl ?_
                                      refine v_irem (pc' := 394) dL_refuses_393 (by decide) rfl ?_
                                      refine v_iconst (pc' := 395) dL_refuses_394 kc_m1 rfl ?_
                                      refine v_iload_n (pc' := 396) dL_refuses_395 rfl rfl ?_
                                      refine v_bipush (pc' := 398) dL_refuses_396 kb_9 rfl ?_
                                      refine v_irem (pc' := 399) dL_refuses_398 (by decide) rfl ?_
                                      refine v_isub (pc' := 400) dL_refuses_399 rfl ?_
                                      refine v_iconst (pc' := 401) dL_refuses_400 kc_0 rfl ?_
                                      refine v_k1 (na := 5) (pc' := 404) (z_K1.to (call_13 hl hK hA19 _ _ _) ((r_lay (set_out (by rw [e9]; exact o_lo (by omega) (by decide)) (by rw [e9]; exact o_lo (by omega) (by decide)) (by rw [e9]; exact o_lo (by omega) (by decide)))).1) ((r_lay (set_out (by rw [e9]; exact o_lo (by omega) (by decide)) (by rw [e9]; exact o_lo (by omega) (by decide)) (by rw [e9]; exact o_lo (by omega) (by decide)))).2)) hF19 dL_refuses_401 lk_L_164 mwL_call msL_call rfl rfl (by decide) ⟨by omega, by omega⟩ (Nat.le_of_ble_eq_true rfl) rfl ?_
                                      intro I20 s20 hA20 hF20
                                      refine v_ldc (pc' := 406) dL_refuses_404 ck_L_15 rfl ?_
                                      refine v_icmp_ne (tgt := 670) (pc' := 409) dL_refuses_406 (by decide) rfl (fun c_406 => ?_) (fun c_406 => ?_)
                                      · exact absurd rfl c_406
                                      · refine v_aload_n (pc' := 410) dL_refuses_409 rfl rfl ?_
                                        refine v_bipush (pc' := 412) dL_refuses_410 kb_13 rfl ?_
                                        refine v_iconst (pc' := 413) dL_refuses_412 kc_2 rfl ?_
                                        refine v_iload_n (pc' := 414) dL_refuses_413 rfl rfl ?_
                                        refine v_iconst (pc' := 415) dL_refuses_414 kc_2 rfl ?_
                                        refine v_irem (pc' := 416) dL_refuses_415 (by decide) rfl ?_
                                        refine v_imul (pc' := 417) dL_refuses_416 rfl ?_
                                        refine v_iconst (pc' := 418) dL_refuses_417 kc_0 rfl ?_
                                        refine v_iconst (pc' := 419) dL_refuses_418 kc_0 rfl ?_
                                        refine v_k1 (na := 5) (pc' := 422) (z_K1.to (call_13 hl hK hA20 _ _ _) ((r_lay (by rw [e2]; exact set_out0 (by omega))).1) ((r_lay (by rw [e2]; exact set_out0 (by omega))).2)) hF20 dL_refuses_419 lk_L_164 mwL_call msL_call rfl rfl (by decide) ⟨by omega, by omega⟩ (Nat.le_of_ble_eq_true rfl) rfl ?_
                                        intro I21 s21 hA21 hF21
                                        refine v_ldc (pc' := 424) dL_refuses_422 ck_L_15 rfl ?_
                                        refine v_icmp_ne (tgt := 670) (pc' := 427) dL_refuses_424 (by decide) rfl (fun c_424 => ?_) (fun c_424 => ?_)
                                        · exact absurd rfl c_424
                                        · refine v_aload_n (pc' := 428) dL_refuses_427 rfl rfl ?_
                                          refine v_bipush (pc' := 430) dL_refuses_428 kb_13 rfl ?_
                                          refine v_iconst (pc' := 431) dL_refuses_430 kc_3 rfl ?_
                                          refine v_iload_n (pc' := 432) dL_refuses_431 rfl rfl ?_
                                          refine v_bipush (pc' := 434) dL_refuses_432 kb_9 rfl ?_
                                          refine v_irem (pc' := 435) dL_refuses_434 (by decide) rfl ?_
                                          refine v_iadd (pc' := 436) dL_refuses_435 rfl ?_
                                          refine v_iconst (pc' := 437) dL_refuses_436 kc_5 rfl ?_
                                          refine v_iconst (pc' := 438) dL_refuses_437 kc_0 rfl ?_
                                          refine v_k1 (na := 5) (pc' := 441) (z_K1.to (call_13 hl hK hA21 _ _ _) ((r_lay (isSet_out (by rw [e9]; exact o_hi 3 _ 2 (by omega) (by omega)))).1) ((r_lay (isSet_out (by rw [e9]; exact o_hi 3 _ 2 (by omega) (by omega)))).2)) hF21 dL_refuses_438 lk_L_164 mwL_call msL_call rfl rfl (by decide) ⟨by omega, by omega⟩ (Nat.le_of_ble_eq_true rfl) rfl ?_
                                          intro I22 s22 hA22 hF22
                                          refine v_ldc (pc' := 443) dL_refuses_441 ck_L_15 rfl ?_
                                          refine v_icmp_ne (tgt := 670) (pc' := 446) dL_refuses_443 (by decide) rfl (fun c_443 => ?_) (fun c_443 => ?_)
                                          · exact absurd rfl c_443
                                          · refine v_aload_n (pc' := 447) dL_refuses_446 rfl rfl ?_
                                            refine v_bipush (pc' := 449) dL_refuses_447 kb_15 rfl ?_
                                            refine v_jv 466 (if nI m - nI m / 2 * 2 = 0 then 0 else 7 + (nI m - nI m / 9 * 9)) (fun J_449 => ?_) ?_
                                            · refine v_iload_n (pc' := 450) dL_refuses_449 rfl rfl ?_
                                              refine v_iconst (pc' := 451) dL_refuses_450 kc_2 rfl ?_
                                              refine v_irem (pc' := 452) dL_refuses_451 (by decide) rfl ?_
                                              refine v_if_ne (tgt := 459) (pc' := 455) dL_refuses_452 (by decide) rfl (fun c_452 => ?_) (fun c_452 => ?_)
                                              · refine v_bipush (pc' := 461) dL_refuses_459 kb_7 rfl ?_
                                                refine v_iload_n (pc' := 462) dL_refuses_461 rfl rfl ?_
                                                refine v_bipush (pc' := 464) dL_refuses_462 kb_9 rfl ?_
                                                refine v_irem (pc' := 465) dL_refuses_464 (by decide) rfl ?_
                                                refine v_iadd (pc' := 466) dL_refuses_465 rfl ?_
                                                exact v_top J_449 (if_neg c_452)
                                              · refine v_iconst (pc' := 456) dL_refuses_455 kc_0 rfl ?_
                                                refine v_goto (tgt := 466) dL_refuses_456 (by decide) ?_
                                                exact v_top J_449 (if_pos c_452)
                                            refine v_iconst (pc' := 467) dL_refuses_466 kc_0 rfl ?_
                                            refine v_iconst (pc' := 468) dL_refuses_467 kc_0 rfl ?_
                                            refine v_k1 (na := 5) (pc' := 471) (z_K1.to (call_15 hl hK hA22 _ _ _) (r_gap hw0) (rfl)) hF22 dL_refuses_468 lk_L_164 mwL_call msL_call rfl rfl (by decide) ⟨by omega, by omega⟩ (Nat.le_of_ble_eq_true rfl) rfl ?_
                                            intro I23 s23 hA23 hF23
                                            refine v_ldc (pc' := 473) dL_refuses_471 ck_L_15 rfl ?_
                                            refine v_icmp_ne (tgt := 670) (pc' := 476) dL_refuses_473 (by decide) rfl (fun c_473 => ?_) (fun c_473 => ?_)
                                            · exact absurd rfl c_473
                                            · refine v_aload_n (pc' := 477) dL_refuses_476 rfl rfl ?_
                                              refine v_bipush (pc' := 479) dL_refuses_477 kb_16 rfl ?_
                                              refine v_bipush (pc' := 481) dL_refuses_479 kb_13 rfl ?_
                                              refine v_iload_n (pc' := 482) dL_refuses_481 rfl rfl ?_
                                              refine v_bipush (pc' := 484) dL_refuses_482 kb_9 rfl ?_
                                              refine v_irem (pc' := 485) dL_refuses_484 (by decide) rfl ?_
                                              refine v_iadd (pc' := 486) dL_refuses_485 rfl ?_
                                              refine v_iconst (pc' := 487) dL_refuses_486 kc_0 rfl ?_
                                              refine v_iconst (pc' := 488) dL_refuses_487 kc_0 rfl ?_
                                              refine v_k1 (na := 5) (pc' := 491) (z_K1.to (call_16 hl hK hA23 _ _ _) (r_win (by rw [show z_in (13 + (nI m - nI m / 9 * 9)) 1 12 = false from by rw [e9]; exact o_hi 13 _ 12 (by omega) (by omega)]; rfl)) (rfl)) hF23 dL_refuses_488 lk_L_164 mwL_call msL_call rfl rfl (by decide) ⟨by omega, by omega⟩ (Nat.le_of_ble_eq_true rfl) rfl ?_
                                              intro I24 s24 hA24 hF24
                                              refine v_ldc (pc' := 493) dL_refuses_491 ck_L_15 rfl ?_
                                              refine v_icmp_ne (tgt := 670) (pc' := 496) dL_refuses_493 (by decide) rfl (fun c_493 => ?_) (fun c_493 => ?_)
                                              · exact absurd rfl c_493
                                              · refine v_aload_n (pc' := 497) dL_refuses_496 rfl rfl ?_
                                                refine v_bipush (pc' := 499) dL_refuses_497 kb_16 rfl ?_
                                                refine v_iconst (pc' := 500) dL_refuses_499 kc_1 rfl ?_
                                                refine v_iconst (pc' := 501) dL_refuses_500 kc_2 rfl ?_
                                                refine v_iload_n (pc' := 502) dL_refuses_501 rfl rfl ?_
                                                refine v_bipush (pc' := 504) dL_refuses_502 kb_9 rfl ?_
                                                refine v_irem (pc' := 505) dL_refuses_504 (by decide) rfl ?_
                                                refine v_iadd (pc' := 506) dL_refuses_505 rfl ?_
                                                refine v_iconst (pc' := 507) dL_refuses_506 kc_0 rfl ?_
                                                refine v_k1 (na := 5) (pc' := 510) (z_K1.to (call_16 hl hK hA24 _ _ _) (r_win (by rw [show z_in (2 + (nI m - nI m / 9 * 9)) 0 1 = false from by rw [e9]; exact o_hi 2 _ 1 (by omega) (by omega), Bool.and_false])) (rfl)) hF24 dL_refuses_507 lk_L_164 mwL_call msL_call rfl rfl (by decide) ⟨by omega, by omega⟩ (Nat.le_of_ble_eq_true rfl) rfl ?_
                                                intro I25 s25 hA25 hF25
                                                refine v_ldc (pc' := 512) dL_refuses_510 ck_L_15 rfl ?_
                                                refine v_icmp_ne (tgt := 670) (pc' := 515) dL_refuses_512 (by decide) rfl (fun c_512 => ?_) (fun c_512 => ?_)
                                                · exact absurd rfl c_512
                                                · refine v_aload_n (pc' := 516) dL_refuses_515 rfl rfl ?_
                                                  refine v_bipush (pc' := 518) dL_refuses_516 kb_17 rfl ?_
                                                  refine v_iload_n (pc' := 519) dL_refuses_518 rfl rfl ?_
                                                  refine v_iconst (pc' := 520) dL_refuses_519 kc_0 rfl ?_
                                                  refine v_iconst (pc' := 521) dL_refuses_520 kc_0 rfl ?_
                                                  refine v_k1 (na := 5) (pc' := 524) (z_K1.to (call_17 hl hK hA25 _ _ _) (r_com1 hfar) (rfl)) hF25 dL_refuses_521 lk_L_164 mwL_call msL_call rfl rfl (by decide) ⟨by omega, by omega⟩ (Nat.le_of_ble_eq_true rfl) rfl ?_
                                                  intro I26 s26 hA26 hF26
                                                  refine v_ldc (pc' := 526) dL_refuses_524 ck_L_40 rfl ?_
                                                  refine v_icmp_ne (tgt := 670) (pc' := 529) dL_refuses_526 (by decide) rfl (fun c_526 => ?_) (fun c_526 => ?_)
                                                  · exact absurd rfl c_526
                                                  · refine v_aload_n (pc' := 530) dL_refuses_529 rfl rfl ?_
                                                    refine v_bipush (pc' := 532) dL_refuses_530 kb_17 rfl ?_
                                                    refine v_iconst (pc' := 533) dL_refuses_532 kc_0 rfl ?_
                                                    refine v_sipush (pc' := 536) dL_refuses_533 ks_201 rfl ?_
                                                    refine v_iload_n (pc' := 537) dL_refuses_536 rfl rfl ?_
                                                    refine v_bipush (pc' := 539) dL_refuses_537 kb_9 rfl ?_
                                                    refine v_irem (pc' := 540) dL_refuses_539 (by decide) rfl ?_
                                                    refine v_iadd (pc' := 541) dL_refuses_540 rfl ?_
                                                    refine v_iconst (pc' := 542) dL_refuses_541 kc_0 rfl ?_
                                                    refine v_k1 (na := 5) (pc' := 545) (z_K1.to (call_17 hl hK hA26 _ _ _) (r_com2 (p_isTask_of hW (u := 0) (by omega)) (by rw [show z_in (201 + (nI m - nI m / 9 * 9)) 1 200 = false from by rw [e9]; exact o_hi 201 _ 200 (by omega) (by omega)]; rfl)) (rfl)) hF26 dL_refuses_542 lk_L_164 mwL_call msL_call rfl rfl (by decide) ⟨by omega, by omega⟩ (Nat.le_of_ble_eq_true rfl) rfl ?_
                                                    intro I27 s27 hA27 hF27
                                                    refine v_ldc (pc' := 547) dL_refuses_545 ck_L_15 rfl ?_
                                                    refine v_icmp_ne (tgt := 670) (pc' := 550) dL_refuses_547 (by decide) rfl (fun c_547 => ?_) (fun c_547 => ?_)
                                                    · exact absurd rfl c_547
                                                    · refine v_aload_n (pc' := 551) dL_refuses_550 rfl rfl ?_
                                                      refine v_bipush (pc' := 553) dL_refuses_551 kb_17 rfl ?_
                                                      refine v_iconst (pc' := 554) dL_refuses_553 kc_0 rfl ?_
                                                      refine v_iconst (pc' := 555) dL_refuses_554 kc_1 rfl ?_
                                                      refine v_iconst (pc' := 556) dL_refuses_555 kc_3 rfl ?_
                                                      refine v_iload_n (pc' := 557) dL_refuses_556 rfl rfl ?_
                                                      refine v_bipush (pc' := 559) dL_refuses_557 kb_9 rfl ?_
                                                      refine v_irem (pc' := 560) dL_refuses_559 (by decide) rfl ?_
                                                      refine v_iadd (pc' := 561) dL_refuses_560 rfl ?_
                                                      refine v_k1 (na := 5) (pc' := 564) (z_K1.to (call_17 hl hK hA27 _ _ _) (r_com2 (p_isTask_of hW (u := 0) (by omega)) (by rw [show z_in (3 + (nI m - nI m / 9 * 9)) 0 2 = false from by rw [e9]; exact o_hi 3 _ 2 (by omega) (by omega), Bool.and_false])) (rfl)) hF27 dL_refuses_561 lk_L_164 mwL_call msL_call rfl rfl (by decide) ⟨by omega, by omega⟩ (Nat.le_of_ble_eq_true rfl) rfl ?_
                                                      intro I28 s28 hA28 hF28
                                                      refine v_ldc (pc' := 566) dL_refuses_564 ck_L_15 rfl ?_
                                                      refine v_icmp_ne (tgt := 670) (pc' := 569) dL_refuses_566 (by decide) rfl (fun c_566 => ?_) (fun c_566 => ?_)
                                                      · exact absurd rfl c_566
                                                      · refine v_aload_n (pc' := 570) dL_refuses_569 rfl rfl ?_
                                                        refine v_bipush (pc' := 572) dL_refuses_570 kb_18 rfl ?_
                                                        refine v_iload_n (pc' := 573) dL_refuses_572 rfl rfl ?_
                                                        refine v_iconst (pc' := 574) dL_refuses_573 kc_0 rfl ?_
                                                        refine v_iconst (pc' := 575) dL_refuses_574 kc_0 rfl ?_
                                                        refine v_k1 (na := 5) (pc' := 578) (z_K1.to (call_18 hl hK hA28 _ _ _) (r_lost hno) (rfl)) hF28 dL_refuses_575 lk_L_164 mwL_call msL_call rfl rfl (by decide) ⟨by omega, by omega⟩ (Nat.le_of_ble_eq_true rfl) rfl ?_
                                                        intro I29 s29 hA29 hF29
                                                        refine v_ldc (pc' := 580) dL_refuses_578 ck_L_40 rfl ?_
                                                        refine v_icmp_ne (tgt := 670) (pc' := 583) dL_refuses_580 (by decide) rfl (fun c_580 => ?_) (fun c_580 => ?_)
                                                        · exact absurd rfl c_580
                                                        · refine v_aload_n (pc' := 584) dL_refuses_583 rfl rfl ?_
                                                          refine v_bipush (pc' := 586) dL_refuses_584 kb_19 rfl ?_
                                                          refine v_iconst (pc' := 587) dL_refuses_586 kc_2 rfl ?_
                                                          refine v_iload_n (pc' := 588) dL_refuses_587 rfl rfl ?_
                                                          refine v_bipush (pc' := 590) dL_refuses_588 kb_50 rfl ?_
                                                          refine v_irem (pc' := 591) dL_refuses_590 (by decide) rfl ?_
                                                          refine v_iadd (pc' := 592) dL_refuses_591 rfl ?_
                                                          refine v_iconst (pc' := 593) dL_refuses_592 kc_0 rfl ?_
                                                          refine v_iconst (pc' := 594) dL_refuses_593 kc_0 rfl ?_
                                                          refine v_k1 (na := 5) (pc' := 597) (z_K1.to (call_19 hl hK hA29 _ _ _) ((r_keep (by rw [e50]; exact o_hi 2 _ 1 (by omega) (by omega))).1) ((r_keep (by rw [e50]; exact o_hi 2 _ 1 (by omega) (by omega))).2)) hF29 dL_refuses_594 lk_L_164 mwL_call msL_call rfl rfl (by decide) ⟨by omega, by omega⟩ (Nat.le_of_ble_eq_true rfl) rfl ?_
                                                          intro I30 s30 hA30 hF30
                                                          refine v_ldc (pc' := 599) dL_refuses_597 ck_L_40 rfl ?_
                                                          refine v_icmp_ne (tgt := 670) (pc' := 602) dL_refuses_599 (by decide) rfl (fun c_599 => ?_) (fun c_599 => ?_)
                                                          · exact absurd rfl c_599
                                                          · refine v_aload_n (pc' := 603) dL_refuses_602 rfl rfl ?_
                                                            refine v_bipush (pc' := 605) dL_refuses_603 kb_20 rfl ?_
                                                            refine v_iconst (pc' := 606) dL_refuses_605 kc_m1 rfl ?_
                                                            refine v_iload_n (pc' := 607) dL_refuses_606 rfl rfl ?_
                                                            refine v_bipush (pc' := 609) dL_refuses_607 kb_9 rfl ?_
                                                            refine v_irem (pc' := 610) dL_refuses_609 (by decide) rfl ?_
                                                            refine v_isub (pc' := 611) dL_refuses_610 rfl ?_
                                                            refine v_iconst (pc' := 612) dL_refuses_611 kc_0 rfl ?_
                                                            refine v_iconst (pc' := 613) dL_refuses_612 kc_0 rfl ?_
                                                            refine v_k1 (na := 5) (pc' := 616) (z_K1.to (call_20 hl hK hA30 _ _ _) ((r_back (by rw [e9]; exact o_lo (by omega) (by decide))).1) ((r_back (by rw [e9]; exact o_lo (by omega) (by decide))).2)) hF30 dL_refuses_613 lk_L_164 mwL_call msL_call rfl rfl (by decide) ⟨by omega, by omega⟩ (Nat.le_of_ble_eq_true rfl) rfl ?_
                                                            intro I31 s31 hA31 hF31
                                                            refine v_ldc (pc' := 618) dL_refuses_616 ck_L_40 rfl ?_
                                                            refine v_icmp_ne (tgt := 670) (pc' := 621) dL_refuses_618 (by decide) rfl (fun c_618 => ?_) (fun c_618 => ?_)
                                                            · exact absurd rfl c_618
                                                            · refine v_aload_n (pc' := 622) dL_refuses_621 rfl rfl ?_
                                                              refine v_iconst (pc' := 623) dL_refuses_622 kc_0 rfl ?_
                                                              refine v_lconst (pc' := 624) dL_refuses_623 kl_0 rfl ?_
                                                              refine v_w1 (na := 3) (pc' := 627) (z_wC.to (w_doScript hl hK hA31 _ _) (by rw [show (e_script 0 0) = 1 from scr_0]) (exs_same _ _)) hF31 dL_refuses_624 lk_L_168 mwwL_doScript mwcL_doScript (by decide +kernel) msL_doScript rfl rfl (by decide) ⟨by omega, by omega⟩ (Nat.le_of_ble_eq_true rfl) rfl ?_
                                                              intro I32 s32 hA32 hF32
                                                              refine v_ldc (pc' := 629) dL_refuses_627 ck_L_15 rfl ?_
                                                              refine v_icmp_ne (tgt := 670) (pc' := 632) dL_refuses_629 (by decide) rfl (fun c_629 => ?_) (fun c_629 => ?_)
                                                              · exact absurd rfl c_629
                                                              · refine v_aload_n (pc' := 633) dL_refuses_632 rfl rfl ?_
                                                                refine v_iconst (pc' := 634) dL_refuses_633 kc_1 rfl ?_
                                                                refine v_ldc2 (pc' := 637) dL_refuses_634 cn_L_172 rfl ?_
                                                                refine v_iload_n (pc' := 638) dL_refuses_637 rfl rfl ?_
                                                                refine v_i2l (pc' := 639) dL_refuses_638 rfl ?_
                                                                refine v_ladd (pc' := 640) dL_refuses_639 rfl ?_
                                                                refine v_w1 (na := 3) (pc' := 643) (z_wC.to (w_doScript hl hK hA32 _ _) (by rw [scr_1 hm]) (exs_same _ _)) hF32 dL_refuses_640 lk_L_168 mwwL_doScript mwcL_doScript (by decide +kernel) msL_doScript rfl rfl (by decide) ⟨by omega, by omega⟩ (Nat.le_of_ble_eq_true rfl) rfl ?_
                                                                intro I33 s33 hA33 hF33
                                                                refine v_ldc (pc' := 645) dL_refuses_643 ck_L_15 rfl ?_
                                                                refine v_icmp_ne (tgt := 670) (pc' := 648) dL_refuses_645 (by decide) rfl (fun c_645 => ?_) (fun c_645 => ?_)
                                                                · exact absurd rfl c_645
                                                                · refine v_aload_n (pc' := 649) dL_refuses_648 rfl rfl ?_
                                                                  refine v_iload_n (pc' := 650) dL_refuses_649 rfl rfl ?_
                                                                  refine v_i2l (pc' := 651) dL_refuses_650 rfl ?_
                                                                  refine v_bipush (pc' := 653) dL_refuses_651 kb_61 rfl ?_
                                                                  refine v_iload_n (pc' := 654) dL_refuses_653 rfl rfl ?_
                                                                  refine v_bipush (pc' := 656) dL_refuses_654 kb_9 rfl ?_
                                                                  refine v_irem (pc' := 657) dL_refuses_656 (by decide) rfl ?_
                                                                  refine v_iadd (pc' := 658) dL_refuses_657 rfl ?_
                                                                  refine v_w1 (na := 3) (pc' := 661) (z_wC.to (w_doSimulate hl hK hA33 _ _) (by rw [show e_sim (61 + (nI m - nI m / 9 * 9)) = 1 from by unfold e_sim; rw [show z_in (61 + (nI m - nI m / 9 * 9)) 1 60 = false from by rw [e9]; exact o_hi 61 _ 60 (by omega) (by omega)]; rfl]) (exs_same _ _)) hF33 dL_refuses_658 lk_L_174 mwwL_doSimulate mwcL_doSimulate (by decide +kernel) msL_doSimulate rfl rfl (by decide) ⟨by omega, by omega⟩ (Nat.le_of_ble_eq_true rfl) rfl ?_
                                                                  intro I34 s34 hA34 hF34
                                                                  refine v_ldc (pc' := 663) dL_refuses_661 ck_L_15 rfl ?_
                                                                  refine v_icmp_ne (tgt := 670) (pc' := 666) dL_refuses_663 (by decide) rfl (fun c_663 => ?_) (fun c_663 => ?_)
                                                                  · exact absurd rfl c_663
                                                                  · refine v_iconst (pc' := 667) dL_refuses_666 kc_1 rfl ?_
                                                                    refine v_goto (tgt := 671) dL_refuses_667 (by decide) ?_
                                                                    exact v_zret dL_refuses_671 rfl (by omega) (by omega) rfl ⟨rfl, rfl, hA34, hF34⟩
end LREF
