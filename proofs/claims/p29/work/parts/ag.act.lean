set_option maxRecDepth 100000 in
set_option maxHeartbeats 8000000 in
theorem c_L_act {l : Launch} {V : VV} {L : LL} {N : NN} {I : List Nat} {n o m l0 T : Nat} (h : InvX V N I n o m l0) (ht : Tie V n T) (hw : 0 ≤ (V 201 38).toInt ∧ (V 201 38).toInt ≤ T) (hT : T + 1 ≤ 900) (ac x y : Int32) : Runs l 8 20 300 yL_act (Cond.code yL_act cL_act 19 (some .boolean)) [aR 0, aI ac, aI x, aI y, aI (nI T), aR 210, aR 211, aR 212, aR 213] V L N I (ActP V L T m) := by
  refine run_of RL (by decide +kernel) rfl (Nat.le_of_ble_eq_true rfl) (fun E hE C hQ hN => ?_)
  subst hE
  have hn6 := ht.n6
  have hPR : PR V n := ⟨h.1, h.2.1⟩
  have hsb : ∀ s, s < n → ShB (RF V) s := h.2.1.2.2.2.1
  have hgb := rw_gb h.2.1
  have hI := h.2.2.1.1.1
  have hPI := hI
  have hx : ∀ i, 218 ≤ i → i ∉ I := fun i hi => h.2.2.1.1.2.2.2 i (Or.inr (Or.inr hi))
  have h218 : 218 ∉ I := hx 218 (by omega)
  have hE : ¬ eI E 218 := by rw [hQ.2]; exact fun q => q.elim (fun e => absurd e (by decide)) (fun e => h218 e)
  have J1063 : ∀ q9 : Nat, Wx E 1063 [some (aR 0), some (aI ac), some (aI x), some (aI y), some (aI (nI T)), some (aR 210), some (aR 211), some (aR 212), some (aR 213), some (aI (nI q9)), none, none, none, none, none, none, none, none, none] [] V L N I 0 0 := by
    intro q9
    refine x_iload_n (pc := 1063) C dL_act_1063 rfl ?_
    refine x_bipush (pc := 1064) C (8) dL_act_1064 (by decide) ?_
    refine x_gS2 (pc := 1066) C [] (fun _ h => nomatch h) s_L_47 dL_act_1066 (c_L_at _ 8 (by decide)) (by decide) rfl ⟨by omega, by omega⟩ ?_
    obtain ⟨i8, hi8, ei8⟩ := at_n x (n := 8) (by decide) (by decide)
    refine x_topi (nI i8) ei8 ?_
    refine y_istore (pc := 1069) C dL_act_1069 (by decide) rfl ?_
    refine x_aload (pc := 1071) C dL_act_1071 rfl ?_
    refine x_iload (pc := 1073) C dL_act_1073 rfl ?_
    refine x_iald (pc := 1075) (o := 210) C dL_act_1075 (hI 210 rfl) ⟨rfl, rfl⟩ (show _ < 8 by omega) (by decide) ?_
    refine x_topi (V 201 i8) (ht.se _ (by omega)) ?_
    refine y_istore (pc := 1076) C dL_act_1076 (by decide) rfl ?_
    have J1203 : ∀ v : Int32, isValB i8 v = true → Wx E 1203 [some (aR 0), some (aI ac), some (aI x), some (aI y), some (aI (nI T)), some (aR 210), some (aR 211), some (aR 212), some (aR 213), some (aI (nI q9)), some (aI (nI (i8))), some (aI (V 201 i8)), none, none, none, none, none, none, none] [aI v, aI (nI i8), aR 210] V L N I 0 0 := by
      intro v hv
      refine x_iast (pc := 1203) (o := 210) C dL_act_1203 (hI 210 rfl) ⟨rfl, rfl⟩ (show _ < 8 by omega) (by decide) ?_
      refine x_aload_n (pc := 1204) C dL_act_1204 rfl ?_
      refine x_iload (pc := 1205) C dL_act_1205 rfl ?_
      refine x_aload (pc := 1207) C dL_act_1207 rfl ?_
      refine x_iload (pc := 1209) C dL_act_1209 rfl ?_
      refine x_iald (pc := 1211) (o := 210) C dL_act_1211 (hI 210 rfl) ⟨rfl, rfl⟩ (show _ < 8 by omega) (by decide) ?_
      refine x_topi (v) (up_ss) ?_
      refine x_mV2 (pc := 1212) (o := 0) C [] (fun _ h => nomatch h) v_L_122 dL_act_1212 (m_set (h.law fun i hi => up_nf (by omega)) hi8 hv) (hI 0 rfl) rfl (by decide) rfl ⟨by omega, by omega⟩ (fun V2 N2 I2 hM => ?_)
      refine x_iload (pc := 1215) C dL_act_1215 rfl ?_
      refine x_icmp_ne (pc := 1217) (tgt := 1224) C dL_act_1217 (by decide) (fun h1217 => absurd (by rfl) h1217) (fun h1217 => ?_)
      refine x_iconst (pc := 1220) C (1) dL_act_1220 (by decide) ?_
      refine x_goto (pc := 1221) (tgt := 1225) C dL_act_1221 (by decide) ?_
      exact x_zret (pc := 1225) C hQ dL_act_1225 (by decide) (act_mut h (W := up V 210 i8 v) (fun i hi => up_nf (by omega)) (up_nf (by decide)) hM (fun V3 e hz h6 => tie_one h.2.1 ht hT hw (Or.inl ⟨rfl, hi8, rfl⟩) e hz h6)) (Nat.le_of_ble_eq_true rfl) (Nat.le_of_ble_eq_true rfl)
    refine x_aload (pc := 1078) C dL_act_1078 rfl ?_
    refine x_iload (pc := 1080) C dL_act_1080 rfl ?_
    refine x_iload (pc := 1082) C dL_act_1082 rfl ?_
    refine x_if_ne (pc := 1084) (tgt := 1097) C dL_act_1084 (by decide) (fun h1084 => ?_) (fun h1084 => ?_)
    · have n0 : ¬ i8 = 0 := fun z => h1084 (by rw [z]; rfl)
      refine x_iload (pc := 1097) C dL_act_1097 rfl ?_
      refine x_iconst (pc := 1099) C (1) dL_act_1099 (by decide) ?_
      refine x_icmp_ne (pc := 1100) (tgt := 1117) C dL_act_1100 (by decide) (fun h1100 => ?_) (fun h1100 => ?_)
      · have n1 : ¬ i8 = 1 := fun z => h1100 (by rw [z]; rfl)
        refine x_iload (pc := 1117) C dL_act_1117 rfl ?_
        refine x_iconst (pc := 1119) C (2) dL_act_1119 (by decide) ?_
        refine x_icmp_ne (pc := 1120) (tgt := 1132) C dL_act_1120 (by decide) (fun h1120 => ?_) (fun h1120 => ?_)
        · have n2 : ¬ i8 = 2 := fun z => h1120 (by rw [z]; rfl)
          refine x_iload (pc := 1132) C dL_act_1132 rfl ?_
          refine x_iconst (pc := 1134) C (3) dL_act_1134 (by decide) ?_
          refine x_icmp_ne (pc := 1135) (tgt := 1148) C dL_act_1135 (by decide) (fun h1135 => ?_) (fun h1135 => ?_)
          · have n3 : ¬ i8 = 3 := fun z => h1135 (by rw [z]; rfl)
            refine x_iload (pc := 1148) C dL_act_1148 rfl ?_
            refine x_iconst (pc := 1150) C (4) dL_act_1150 (by decide) ?_
            refine x_icmp_ne (pc := 1151) (tgt := 1165) C dL_act_1151 (by decide) (fun h1151 => ?_) (fun h1151 => ?_)
            · have n4 : ¬ i8 = 4 := fun z => h1151 (by rw [z]; rfl)
              refine x_iload (pc := 1165) C dL_act_1165 rfl ?_
              refine x_iconst (pc := 1167) C (5) dL_act_1167 (by decide) ?_
              refine x_icmp_ne (pc := 1168) (tgt := 1180) C dL_act_1168 (by decide) (fun h1168 => ?_) (fun h1168 => ?_)
              · have n5 : ¬ i8 = 5 := fun z => h1168 (by rw [z]; rfl)
                refine x_iload (pc := 1180) C dL_act_1180 rfl ?_
                refine x_bipush (pc := 1182) C (6) dL_act_1182 (by decide) ?_
                refine x_icmp_ne (pc := 1184) (tgt := 1196) C dL_act_1184 (by decide) (fun h1184 => ?_) (fun h1184 => ?_)
                · have n6 : ¬ i8 = 6 := fun z => h1184 (by rw [z]; rfl)
                  refine x_iload_n (pc := 1196) C dL_act_1196 rfl ?_
                  refine x_sipush (pc := 1197) C (601) dL_act_1197 (by decide) ?_
                  refine x_gS2 (pc := 1200) C [] (fun _ h => nomatch h) s_L_47 dL_act_1200 (c_L_at _ 601 (by decide)) (by decide) rfl ⟨by omega, by omega⟩ ?_
                  obtain ⟨kv, hkv, ekv⟩ := at_n y (n := 601) (by decide) (by decide)
                  refine x_topi (nI kv) ekv ?_
                  have hi8v : i8 = 7 := by first | omega | exact nI_w (k := 7) hi8 (by decide) (by assumption)
                  exact J1203 _ (by rw [hi8v]; exact val_ok (s := 7) (w := kv) (lo := 0) (hi := 600) rfl rfl (by omega) (by decide))
                · have y6 : i8 = 6 := nI_w (k := 6) hi8 (by decide) h1184
                  refine x_iload_n (pc := 1187) C dL_act_1187 rfl ?_
                  refine x_bipush (pc := 1188) C (31) dL_act_1188 (by decide) ?_
                  refine x_gS2 (pc := 1190) C [] (fun _ h => nomatch h) s_L_47 dL_act_1190 (c_L_at _ 31 (by decide)) (by decide) rfl ⟨by omega, by omega⟩ ?_
                  obtain ⟨kv, hkv, ekv⟩ := at_n y (n := 31) (by decide) (by decide)
                  refine x_topi (nI kv) ekv ?_
                  refine x_goto (pc := 1193) (tgt := 1203) C dL_act_1193 (by decide) ?_
                  have hi8v : i8 = 6 := by first | omega | exact nI_w (k := 6) hi8 (by decide) (by assumption)
                  exact J1203 _ (by rw [hi8v]; exact val_ok (s := 6) (w := kv) (lo := 0) (hi := 30) rfl rfl (by omega) (by decide))
              · have y5 : i8 = 5 := nI_w (k := 5) hi8 (by decide) h1168
                refine x_iload_n (pc := 1171) C dL_act_1171 rfl ?_
                refine x_bipush (pc := 1172) C (101) dL_act_1172 (by decide) ?_
                refine x_gS2 (pc := 1174) C [] (fun _ h => nomatch h) s_L_47 dL_act_1174 (c_L_at _ 101 (by decide)) (by decide) rfl ⟨by omega, by omega⟩ ?_
                obtain ⟨kv, hkv, ekv⟩ := at_n y (n := 101) (by decide) (by decide)
                refine x_topi (nI kv) ekv ?_
                refine x_goto (pc := 1177) (tgt := 1203) C dL_act_1177 (by decide) ?_
                have hi8v : i8 = 5 := by first | omega | exact nI_w (k := 5) hi8 (by decide) (by assumption)
                exact J1203 _ (by rw [hi8v]; exact val_ok (s := 5) (w := kv) (lo := 0) (hi := 100) rfl rfl (by omega) (by decide))
            · have y4 : i8 = 4 := nI_w (k := 4) hi8 (by decide) h1151
              refine x_iconst (pc := 1154) C (1) dL_act_1154 (by decide) ?_
              refine x_iload_n (pc := 1155) C dL_act_1155 rfl ?_
              refine x_bipush (pc := 1156) C (100) dL_act_1156 (by decide) ?_
              refine x_gS2 (pc := 1158) C [] (fun _ h => nomatch h) s_L_47 dL_act_1158 (c_L_at _ 100 (by decide)) (by decide) rfl ⟨by omega, by omega⟩ ?_
              obtain ⟨kv, hkv, ekv⟩ := at_n y (n := 100) (by decide) (by decide)
              refine x_topi (nI kv) ekv ?_
              refine x_iadd (pc := 1161) C dL_act_1161 ?_
              refine x_topi (nI (1 + kv)) (nI_add (1) (kv)) ?_
              refine x_goto (pc := 1162) (tgt := 1203) C dL_act_1162 (by decide) ?_
              have hi8v : i8 = 4 := by first | omega | exact nI_w (k := 4) hi8 (by decide) (by assumption)
              exact J1203 _ (by rw [hi8v]; exact val_ok (s := 4) (w := 1 + kv) (lo := 1) (hi := 100) rfl rfl (by omega) (by decide))
          · have y3 : i8 = 3 := nI_w (k := 3) hi8 (by decide) h1135
            refine x_iload_n (pc := 1138) C dL_act_1138 rfl ?_
            refine x_sipush (pc := 1139) C (241) dL_act_1139 (by decide) ?_
            refine x_gS2 (pc := 1142) C [] (fun _ h => nomatch h) s_L_47 dL_act_1142 (c_L_at _ 241 (by decide)) (by decide) rfl ⟨by omega, by omega⟩ ?_
            obtain ⟨kv, hkv, ekv⟩ := at_n y (n := 241) (by decide) (by decide)
            refine x_topi (nI kv) ekv ?_
            refine x_goto (pc := 1145) (tgt := 1203) C dL_act_1145 (by decide) ?_
            have hi8v : i8 = 3 := by first | omega | exact nI_w (k := 3) hi8 (by decide) (by assumption)
            exact J1203 _ (by rw [hi8v]; exact val_ok (s := 3) (w := kv) (lo := 0) (hi := 240) rfl rfl (by omega) (by decide))
        · have y2 : i8 = 2 := nI_w (k := 2) hi8 (by decide) h1120
          refine x_iload_n (pc := 1123) C dL_act_1123 rfl ?_
          refine x_bipush (pc := 1124) C (121) dL_act_1124 (by decide) ?_
          refine x_gS2 (pc := 1126) C [] (fun _ h => nomatch h) s_L_47 dL_act_1126 (c_L_at _ 121 (by decide)) (by decide) rfl ⟨by omega, by omega⟩ ?_
          obtain ⟨kv, hkv, ekv⟩ := at_n y (n := 121) (by decide) (by decide)
          refine x_topi (nI kv) ekv ?_
          refine x_goto (pc := 1129) (tgt := 1203) C dL_act_1129 (by decide) ?_
          have hi8v : i8 = 2 := by first | omega | exact nI_w (k := 2) hi8 (by decide) (by assumption)
          exact J1203 _ (by rw [hi8v]; exact val_ok (s := 2) (w := kv) (lo := 0) (hi := 120) rfl rfl (by omega) (by decide))
      · have y1 : i8 = 1 := nI_w (k := 1) hi8 (by decide) h1100
        refine x_sipush (pc := 1103) C (721) dL_act_1103 (by decide) ?_
        refine x_iload_n (pc := 1106) C dL_act_1106 rfl ?_
        refine x_sipush (pc := 1107) C (720) dL_act_1107 (by decide) ?_
        refine x_gS2 (pc := 1110) C [] (fun _ h => nomatch h) s_L_47 dL_act_1110 (c_L_at _ 720 (by decide)) (by decide) rfl ⟨by omega, by omega⟩ ?_
        obtain ⟨kv, hkv, ekv⟩ := at_n y (n := 720) (by decide) (by decide)
        refine x_topi (nI kv) ekv ?_
        refine x_iadd (pc := 1113) C dL_act_1113 ?_
        refine x_topi (nI (721 + kv)) (nI_add (721) (kv)) ?_
        refine x_goto (pc := 1114) (tgt := 1203) C dL_act_1114 (by decide) ?_
        have hi8v : i8 = 1 := by first | omega | exact nI_w (k := 1) hi8 (by decide) (by assumption)
        exact J1203 _ (by rw [hi8v]; exact val_ok (s := 1) (w := 721 + kv) (lo := 721) (hi := 1440) rfl rfl (by omega) (by decide))
    · have y0 : i8 = 0 := nI_w (k := 0) hi8 (by decide) h1084
      refine x_iload_n (pc := 1087) C dL_act_1087 rfl ?_
      refine x_sipush (pc := 1088) C (721) dL_act_1088 (by decide) ?_
      refine x_gS2 (pc := 1091) C [] (fun _ h => nomatch h) s_L_47 dL_act_1091 (c_L_at _ 721 (by decide)) (by decide) rfl ⟨by omega, by omega⟩ ?_
      obtain ⟨kv, hkv, ekv⟩ := at_n y (n := 721) (by decide) (by decide)
      refine x_topi (nI kv) ekv ?_
      refine x_goto (pc := 1094) (tgt := 1203) C dL_act_1094 (by decide) ?_
      have hi8v : i8 = 0 := by first | omega | exact nI_w (k := 0) hi8 (by decide) (by assumption)
      exact J1203 _ (by rw [hi8v]; exact val_ok (s := 0) (w := kv) (lo := 0) (hi := 720) rfl rfl (by omega) (by decide))
  have J992 : ∀ q9 : Nat, Wx E 992 [some (aR 0), some (aI ac), some (aI x), some (aI y), some (aI (nI T)), some (aR 210), some (aR 211), some (aR 212), some (aR 213), some (aI (nI q9)), none, none, none, none, none, none, none, none, none] [] V L N I 0 0 := by
    intro q9
    refine x_iload_n (pc := 992) C dL_act_992 rfl ?_
    refine x_bipush (pc := 993) C (6) dL_act_993 (by decide) ?_
    refine x_gS2 (pc := 995) C [] (fun _ h => nomatch h) s_L_47 dL_act_995 (c_L_at _ 6 (by decide)) (by decide) rfl ⟨by omega, by omega⟩ ?_
    obtain ⟨g6, hg6, eg6⟩ := at_n x (n := 6) (by decide) (by decide)
    refine x_topi (nI g6) eg6 ?_
    refine y_istore (pc := 998) C dL_act_998 (by decide) rfl ?_
    refine x_aload (pc := 1000) C dL_act_1000 rfl ?_
    refine x_iconst (pc := 1002) C (5) dL_act_1002 (by decide) ?_
    refine x_iload (pc := 1003) C dL_act_1003 rfl ?_
    refine x_imul (pc := 1005) C dL_act_1005 ?_
    refine x_topi (nI (5 * g6)) (pk_mul (5) (g6)) ?_
    refine x_iald (pc := 1006) (o := 211) C dL_act_1006 (hI 211 rfl) ⟨rfl, rfl⟩ (show _ < 30 by omega) (by decide) ?_
    refine x_topi (V 201 (8 + (5 * g6))) (ht.gr (by omega)) ?_
    refine y_istore (pc := 1007) C dL_act_1007 (by decide) rfl ?_
    have J1038 : ∀ v : Int32, withinB v 0 2000 = true → Wx E 1038 [some (aR 0), some (aI ac), some (aI x), some (aI y), some (aI (nI T)), some (aR 210), some (aR 211), some (aR 212), some (aR 213), some (aI (nI q9)), some (aI (nI (g6))), some (aI (V 201 (8 + 5 * g6))), none, none, none, none, none, none, none] [aI v, aI (nI (5 * g6)), aR 211] V L N I 0 0 := by
      intro v hv
      refine x_iast (pc := 1038) (o := 211) C dL_act_1038 (hI 211 rfl) ⟨rfl, rfl⟩ (show _ < 30 by omega) (by decide) ?_
      refine x_aload_n (pc := 1039) C dL_act_1039 rfl ?_
      refine x_iload (pc := 1040) C dL_act_1040 rfl ?_
      refine x_aload (pc := 1042) C dL_act_1042 rfl ?_
      refine x_iconst (pc := 1044) C (5) dL_act_1044 (by decide) ?_
      refine x_iload (pc := 1045) C dL_act_1045 rfl ?_
      refine x_imul (pc := 1047) C dL_act_1047 ?_
      refine x_topi (nI (5 * g6)) (pk_mul (5) (g6)) ?_
      refine x_iald (pc := 1048) (o := 211) C dL_act_1048 (hI 211 rfl) ⟨rfl, rfl⟩ (show _ < 30 by omega) (by decide) ?_
      refine x_topi (v) (up_ss) ?_
      refine x_mV2 (pc := 1049) (o := 0) C [] (fun _ h => nomatch h) v_L_119 dL_act_1049 (m_quota (h.law fun i hi => up_nf (by omega)) hg6 hv) (hI 0 rfl) rfl (by decide) rfl ⟨by omega, by omega⟩ (fun V2 N2 I2 hM => ?_)
      refine x_iload (pc := 1052) C dL_act_1052 rfl ?_
      refine x_icmp_ne (pc := 1054) (tgt := 1061) C dL_act_1054 (by decide) (fun h1054 => absurd (by rfl) h1054) (fun h1054 => ?_)
      refine x_iconst (pc := 1057) C (1) dL_act_1057 (by decide) ?_
      refine x_goto (pc := 1058) (tgt := 1062) C dL_act_1058 (by decide) ?_
      exact x_zret (pc := 1062) C hQ dL_act_1062 (by decide) (act_mut h (W := up V 211 (5 * g6) v) (fun i hi => up_nf (by omega)) (up_nf (by decide)) hM (fun V3 e hz h6 => tie_one h.2.1 ht hT hw (Or.inr (Or.inl ⟨rfl, by omega, rfl, by omega⟩)) e hz h6)) (Nat.le_of_ble_eq_true rfl) (Nat.le_of_ble_eq_true rfl)
    refine x_aload (pc := 1009) C dL_act_1009 rfl ?_
    refine x_iconst (pc := 1011) C (5) dL_act_1011 (by decide) ?_
    refine x_iload (pc := 1012) C dL_act_1012 rfl ?_
    refine x_imul (pc := 1014) C dL_act_1014 ?_
    refine x_topi (nI (5 * g6)) (pk_mul (5) (g6)) ?_
    refine x_iload_n (pc := 1015) C dL_act_1015 rfl ?_
    refine x_iload_n (pc := 1016) C dL_act_1016 rfl ?_
    refine x_iconst (pc := 1017) C (3) dL_act_1017 (by decide) ?_
    refine x_ishr (pc := 1018) C dL_act_1018 ?_
    refine x_iconst (pc := 1019) C (3) dL_act_1019 (by decide) ?_
    refine x_gS2 (pc := 1020) C [] (fun _ h => nomatch h) s_L_47 dL_act_1020 (c_L_at _ 3 (by decide)) (by decide) rfl ⟨by omega, by omega⟩ ?_
    refine x_if_ne (pc := 1023) (tgt := 1032) C dL_act_1023 (by decide) (fun h1023 => ?_) (fun h1023 => ?_)
    · refine x_sipush (pc := 1032) C (500) dL_act_1032 (by decide) ?_
      refine x_gS2 (pc := 1035) C [] (fun _ h => nomatch h) s_L_47 dL_act_1035 (c_L_at _ 500 (by decide)) (by decide) rfl ⟨by omega, by omega⟩ ?_
      obtain ⟨kv, hkv, ekv⟩ := at_n y (n := 500) (by decide) (by decide)
      refine x_topi (nI kv) ekv ?_
      exact J1038 _ (win_n (k := 2000) (by omega) (by decide))
    · refine x_sipush (pc := 1026) C (2001) dL_act_1026 (by decide) ?_
      refine x_goto (pc := 1029) (tgt := 1035) C dL_act_1029 (by decide) ?_
      refine x_gS2 (pc := 1035) C [] (fun _ h => nomatch h) s_L_47 dL_act_1035 (c_L_at _ 2001 (by decide)) (by decide) rfl ⟨by omega, by omega⟩ ?_
      obtain ⟨kv, hkv, ekv⟩ := at_n y (n := 2001) (by decide) (by decide)
      refine x_topi (nI kv) ekv ?_
      exact J1038 _ (win_n (k := 2000) (by omega) (by decide))
  have J697 : ∀ q9 : Nat, Wx E 697 [some (aR 0), some (aI ac), some (aI x), some (aI y), some (aI (nI T)), some (aR 210), some (aR 211), some (aR 212), some (aR 213), some (aI (nI q9)), none, none, none, none, none, none, none, none, none] [] V L N I 0 0 := by
    intro q9
    refine x_bipush (pc := 697) C (28) dL_act_697 (by decide) ?_
    refine x_topi (nI 28) (by decide) ?_
    refine x_newA (pc := 699) C 218 (Or.inl rfl) rfl h218 [] (fun _ h => nomatch h) dL_act_699 rfl ⟨by omega, by omega⟩ ?_
    have hI : PI (I ++ [218]) := fun i h => List.mem_append_left _ (hPI i h)
    have h218i : 218 ∈ (I ++ [218]) := List.mem_append_right _ List.mem_cons_self
    have hJ : ∀ j, j ∈ [218] → j ∈ (I ++ [218]) := fun j h => List.mem_append_right _ h
    refine y_astore (pc := 701) C dL_act_701 (by decide) rfl ?_
    refine x_iconst (pc := 703) C (0) dL_act_703 (by decide) ?_
    refine y_istore (pc := 704) C dL_act_704 (by decide) rfl ?_
    suffices keyk : ∀ (k i : Nat) (M : VV), k + i = 7 → ((∀ j, ¬ (218 ≤ j ∧ j ≤ 221) → M j = V j) ∧ ∀ s, s < n → (RF V 2 s).toInt < ((i : Nat) : Int) → ∀ k, k < 4 → M 218 (4 * s + k) = airR (RF V) (V 201) k s) → Wx E 706 [some (aR 0), some (aI ac), some (aI x), some (aI y), some (aI (nI T)), some (aR 210), some (aR 211), some (aR 212), some (aR 213), some (aI (nI q9)), some (aR 218), some (aI (nI (i))), none, none, none, none, none, none, none] [] M L N (I ++ [218]) 1 28 by
      exact keyk (7) (0) _ (by omega) (⟨fun j hj => if_neg (by omega), fun s hs a => absurd a (by have := (hsb s hs).2.2.1.1; omega)⟩)
    intro k
    induction k with
    | zero =>
      intro i M hk hd
      have hFA : FA (GF M) (RF V) n := fun k hk s hs => (congrFun (hd.1 213 (by omega)) _).trans (ht.f hs hk)
      have hGE : GEq (M 210) (V 201) := fun k hk => (congrFun (hd.1 210 (by omega)) k).trans (ht.se k hk)
      refine x_iload (pc := 706) C dL_act_706 rfl ?_
      refine x_bipush (pc := 708) C (7) dL_act_708 (by decide) ?_
      refine x_icmp_ge (pc := 710) (tgt := 733) C dL_act_710 (by decide) (fun h710 => ?_) (fun h710 => absurd (by exact nI_le (a := 7) (b := i) (by omega) (by omega)) h710)
      obtain rfl : i = 7 := by omega
      have hA0 : Acc V M n 0 := ⟨fun j a b => hd.1 j b, fun j hj => (congrFun (hd.1 211 (by omega)) j).trans (ht.gr hj), fun s hs k hk => hd.2 s hs (by have := (hsb s hs).2.2.1.2; omega) k hk⟩
      refine x_wid (a' := 1) (b' := 28) (by omega) (by omega) ?_
      refine x_iconst (pc := 733) C (0) dL_act_733 (by decide) ?_
      refine y_istore (pc := 734) C dL_act_734 (by decide) rfl ?_
      suffices keyk : ∀ (k g : Nat) (Mg : VV), k + g = 6 → (Acc V Mg n g) → Wx E 736 [some (aR 0), some (aI ac), some (aI x), some (aI y), some (aI (nI T)), some (aR 210), some (aR 211), some (aR 212), some (aR 213), some (aI (nI q9)), some (aR 218), some (aI (nI (g))), none, none, none, none, none, none, none] [] Mg L N (I ++ [218]) 1 28 by
        exact keyk (6) (0) _ (by omega) (hA0)
      intro k
      induction k with
      | zero =>
        intro g Mg hk hA
        refine x_iload (pc := 736) C dL_act_736 rfl ?_
        refine x_bipush (pc := 738) C (6) dL_act_738 (by decide) ?_
        refine x_icmp_ge (pc := 740) (tgt := 931) C dL_act_740 (by decide) (fun h740 => ?_) (fun h740 => absurd (by exact nI_le (a := 6) (b := g) (by omega) (by omega)) h740)
        obtain rfl : g = 6 := by omega
        refine x_fgt 11 ?_
        refine x_fgt 12 ?_
        refine x_fgt 13 ?_
        refine x_fgt 14 ?_
        refine x_iconst (pc := 931) C (0) dL_act_931 (by decide) ?_
        refine y_istore (pc := 932) C dL_act_932 (by decide) rfl ?_
        refine x_mem (zW_0) ?_
        suffices keyk3 : ∀ (k3 i : Nat) , k3 + i = n → (True) → Wx E 934 [some (aR 0), some (aI ac), some (aI x), some (aI y), some (aI (nI T)), some (aR 210), some (aR 211), some (aR 212), some (aR 213), some (aI (nI q9)), some (aR 218), some (aI (nI (i))), none, none, none, none, none, none, none] [] (zW Mg i) L N (I ++ [218]) 1 28 by
          exact keyk3 (n) (0)  (by omega) (trivial)
        intro k3
        induction k3 with
        | zero =>
          intro i  hk3 hinv3
          refine x_iload (pc := 934) C dL_act_934 rfl ?_
          refine x_aload (pc := 936) C dL_act_936 rfl ?_
          refine x_iconst (pc := 938) C (1) dL_act_938 (by decide) ?_
          refine x_topi (nI 1) (by decide) ?_
          refine x_iald (pc := 939) (o := 212) C dL_act_939 (hI 212 rfl) ⟨rfl, rfl⟩ (show _ < 3 by decide) (by decide) ?_
          refine x_topi (nI n) (show zW Mg i 212 1 = nI n by rw [zW_f (by decide), hA.1 212 (by decide) (by decide)]; exact ht.d1) ?_
          refine x_icmp_ge (pc := 940) (tgt := 961) C dL_act_940 (by decide) (fun h940 => ?_) (fun h940 => absurd (by exact nI_le (by omega) (by omega)) h940)
          obtain rfl : i = n := by omega
          have hW0 : zW Mg i 212 0 = V 201 38 := by rw [zW_f (by decide), hA.1 212 (by decide) (by decide)]; exact ht.2.2.2.1
          have hWf : ∀ j, j < 210 → up (zW Mg i) 212 0 (V 201 38 + 1) j = V j := fun j hj => by rw [up_nf (by omega), zW_f (by omega), hA.1 j (by omega) (by omega)]
          refine x_aload (pc := 961) C dL_act_961 rfl ?_
          refine x_iconst (pc := 963) C (0) dL_act_963 (by decide) ?_
          refine x_dup2 (pc := 964) C dL_act_964 rfl rfl ?_
          refine x_topi (nI 0) (by decide) ?_
          refine x_iald (pc := 965) (o := 212) C dL_act_965 (hI 212 rfl) ⟨rfl, rfl⟩ (show _ < 3 by decide) (by decide) ?_
          refine x_topi (V 201 38) hW0 ?_
          refine x_iconst (pc := 966) C (1) dL_act_966 (by decide) ?_
          refine x_iadd (pc := 967) C dL_act_967 ?_
          refine x_top2i (nI 0) (by decide) ?_
          refine x_iast (pc := 968) (o := 212) C dL_act_968 (hI 212 rfl) ⟨rfl, rfl⟩ (show _ < 3 by decide) (by decide) ?_
          refine x_fgt 10 ?_
          refine x_drop (x := 218) hE ?_
          have hI := hPI
          refine x_aload_n (pc := 969) C dL_act_969 rfl ?_
          refine x_mV0 (pc := 970) (o := 0) C [] (fun _ h => nomatch h) v_L_116 dL_act_970 (m_close (h.law hWf) (by rw [hWf 201 (by decide)]; have := ht.2.1; omega)) (hI 0 rfl) rfl (by decide) rfl ⟨by omega, by omega⟩ (fun V2 N2 I2 hM => ?_)
          have hI := hM.pi
          have hM0 : V2 212 0 = V 201 38 + 1 := (congrFun (hM.1 212 (by decide)) 0).trans up_ss
          refine x_aload (pc := 973) C dL_act_973 rfl ?_
          refine x_iconst (pc := 975) C (0) dL_act_975 (by decide) ?_
          refine x_topi (nI 0) (by decide) ?_
          refine x_iald (pc := 976) (o := 212) C dL_act_976 (hI 212 rfl) ⟨rfl, rfl⟩ (show _ < 3 by decide) (by decide) ?_
          refine x_topi (V 201 38 + 1) hM0 ?_
          refine x_icmp_ne (pc := 977) (tgt := 984) C dL_act_977 (by decide) (fun h977 => absurd (by exact congrArg (fun z => z + 1) (congrFun (hWf 201 (by decide)) 38)) h977) (fun h977 => ?_)
          refine x_iconst (pc := 980) C (1) dL_act_980 (by decide) ?_
          refine x_goto (pc := 981) (tgt := 985) C dL_act_981 (by decide) ?_
          exact x_zret (pc := 985) C hQ dL_act_985 (by decide) (act_mut h (W := up (zW Mg i) 212 0 (V 201 38 + 1)) (fun j hj => by rw [up_nf (by omega), zW_f (by omega), hA.1 j (by omega) (by omega)]) (hWf 201 (by decide)) hM (fun V3 e hz h6 => tie_close h.2.1 hA ht hT hw (fun j a _ => e j a) (hz.trans (cwR_cg (hWf 201 (by decide)))) (h6.trans (congrFun (hWf 0 (by decide)) 6)))) (Nat.le_of_ble_eq_true rfl) (Nat.le_of_ble_eq_true rfl)
        | succ k3 ih3 =>
          intro i  hk3 hinv3
          refine x_iload (pc := 934) C dL_act_934 rfl ?_
          refine x_aload (pc := 936) C dL_act_936 rfl ?_
          refine x_iconst (pc := 938) C (1) dL_act_938 (by decide) ?_
          refine x_topi (nI 1) (by decide) ?_
          refine x_iald (pc := 939) (o := 212) C dL_act_939 (hI 212 rfl) ⟨rfl, rfl⟩ (show _ < 3 by decide) (by decide) ?_
          refine x_topi (nI n) (show zW Mg i 212 1 = nI n by rw [zW_f (by decide), hA.1 212 (by decide) (by decide)]; exact ht.d1) ?_
          refine x_icmp_ge (pc := 940) (tgt := 961) C dL_act_940 (by decide) (fun h940 => absurd h940 (by exact nI_ge (by omega) (by omega))) (fun h940 => ?_)
          refine x_aload (pc := 943) C dL_act_943 rfl ?_
          refine x_bipush (pc := 945) C (9) dL_act_945 (by decide) ?_
          refine x_iload (pc := 947) C dL_act_947 rfl ?_
          refine x_imul (pc := 949) C dL_act_949 ?_
          refine x_topi (nI (9 * i)) (pk_mul (9) (i)) ?_
          refine x_bipush (pc := 950) C (6) dL_act_950 (by decide) ?_
          refine x_iadd (pc := 952) C dL_act_952 ?_
          refine x_topi (nI (9 * i + 6)) (nI_add (9 * i) (6)) ?_
          refine x_iconst (pc := 953) C (0) dL_act_953 (by decide) ?_
          refine x_iast (pc := 954) (o := 213) C dL_act_954 (hI 213 rfl) ⟨rfl, rfl⟩ (show _ < 63 by omega) (by decide) ?_
          refine y_iinc (pc := 955) C (nI (i + 1)) dL_act_955 rfl (by exact nI_1 i) (by decide) rfl ?_
          refine x_goto (pc := 958) (tgt := 934) C dL_act_958 (by decide) ?_
          refine x_mem zW_s ?_
          exact ih3 (i + 1) (by omega) trivial
      | succ k ih =>
        intro g Mg hk hA
        refine x_iload (pc := 736) C dL_act_736 rfl ?_
        refine x_bipush (pc := 738) C (6) dL_act_738 (by decide) ?_
        refine x_icmp_ge (pc := 740) (tgt := 931) C dL_act_740 (by decide) (fun h740 => absurd h740 (by exact nI_ge (a := g) (b := 6) (by omega) (by omega))) (fun h740 => ?_)
        refine x_iconst (pc := 743) C (0) dL_act_743 (by decide) ?_
        refine y_istore (pc := 744) C dL_act_744 (by decide) rfl ?_
        refine x_iconst (pc := 746) C (0) dL_act_746 (by decide) ?_
        refine y_istore (pc := 747) C dL_act_747 (by decide) rfl ?_
        suffices keyk2 : ∀ (k2 i : Nat) (ar : Int32), k2 + i = n → (ar = sumTo (fun s => if RF V 1 s = nI g then worthF (V 201 5) (RF V 0 s) (airR (RF V) (V 201) 1 s) else 0) i) → Wx E 749 [some (aR 0), some (aI ac), some (aI x), some (aI y), some (aI (nI T)), some (aR 210), some (aR 211), some (aR 212), some (aR 213), some (aI (nI q9)), some (aR 218), some (aI (nI (g))), some (aI ar), some (aI (nI (i))), none, none, none, none, none] [] Mg L N (I ++ [218]) 1 28 by
          exact keyk2 (n) (0) 0 (by omega) (rfl)
        intro k2
        induction k2 with
        | zero =>
          intro i ar hk2 hinv2
          refine x_iload (pc := 749) C dL_act_749 rfl ?_
          refine x_aload (pc := 751) C dL_act_751 rfl ?_
          refine x_iconst (pc := 753) C (1) dL_act_753 (by decide) ?_
          refine x_topi (nI 1) (by decide) ?_
          refine x_iald (pc := 754) (o := 212) C dL_act_754 (hI 212 rfl) ⟨rfl, rfl⟩ (show _ < 3 by decide) (by decide) ?_
          refine x_topi (nI n) ((congrFun (hA.1 212 (by decide) (by decide)) 1).trans ht.d1) ?_
          refine x_icmp_ge (pc := 755) (tgt := 810) C dL_act_755 (by decide) (fun h755 => ?_) (fun h755 => absurd (by exact nI_le (by omega) (by omega)) h755)
          have har : ar = awS V n (nI g) := by rw [hinv2, show i = n by omega]; rfl
          have J862 : ∀ ke : Int32, ke = (if V 201 7 < (Mg 211 (5 * g) + Mg 211 (5 * g + 1) - ar) then V 201 7 else if (Mg 211 (5 * g) + Mg 211 (5 * g + 1) - ar) < -(V 201 7) then -(V 201 7) else (Mg 211 (5 * g) + Mg 211 (5 * g + 1) - ar)) → Wx E 862 [some (aR 0), some (aI ac), some (aI x), some (aI y), some (aI (nI T)), some (aR 210), some (aR 211), some (aR 212), some (aR 213), some (aI (nI q9)), some (aR 218), some (aI (nI (g))), some (aI ar), some (aI (Mg 211 (5 * g) + Mg 211 (5 * g + 1) - ar)), none, none, none, none, none] [aI ke] Mg L N (I ++ [218]) 1 28 := by
            intro ke hke
            refine y_istore (pc := 862) C dL_act_862 (by decide) rfl ?_
            refine x_aload (pc := 864) C dL_act_864 rfl ?_
            refine x_iconst (pc := 866) C (5) dL_act_866 (by decide) ?_
            refine x_iload (pc := 867) C dL_act_867 rfl ?_
            refine x_imul (pc := 869) C dL_act_869 ?_
            refine x_topi (nI (5 * g)) (pk_mul (5) (g)) ?_
            refine x_iconst (pc := 870) C (1) dL_act_870 (by decide) ?_
            refine x_iadd (pc := 871) C dL_act_871 ?_
            refine x_topi (nI (5 * g + 1)) (nI_add (5 * g) (1)) ?_
            refine x_iload (pc := 872) C dL_act_872 rfl ?_
            refine x_iast (pc := 874) (o := 211) C dL_act_874 (hI 211 rfl) ⟨rfl, rfl⟩ (show _ < 30 by omega) (by decide) ?_
            refine x_aload (pc := 875) C dL_act_875 rfl ?_
            refine x_iconst (pc := 877) C (5) dL_act_877 (by decide) ?_
            refine x_iload (pc := 878) C dL_act_878 rfl ?_
            refine x_imul (pc := 880) C dL_act_880 ?_
            refine x_topi (nI (5 * g)) (pk_mul (5) (g)) ?_
            refine x_iconst (pc := 881) C (2) dL_act_881 (by decide) ?_
            refine x_iadd (pc := 882) C dL_act_882 ?_
            refine x_topi (nI (5 * g + 2)) (nI_add (5 * g) (2)) ?_
            refine x_dup2 (pc := 883) C dL_act_883 rfl rfl ?_
            refine x_iald (pc := 884) (o := 211) C dL_act_884 (hI 211 rfl) ⟨rfl, rfl⟩ (show _ < 30 by omega) (by decide) ?_
            refine x_topi (Mg 211 (5 * g + 2)) (by rw [up_nk (by omega)]) ?_
            refine x_aload (pc := 885) C dL_act_885 rfl ?_
            refine x_iconst (pc := 887) C (5) dL_act_887 (by decide) ?_
            refine x_iload (pc := 888) C dL_act_888 rfl ?_
            refine x_imul (pc := 890) C dL_act_890 ?_
            refine x_topi (nI (5 * g)) (pk_mul (5) (g)) ?_
            refine x_iald (pc := 891) (o := 211) C dL_act_891 (hI 211 rfl) ⟨rfl, rfl⟩ (show _ < 30 by omega) (by decide) ?_
            refine x_topi (Mg 211 (5 * g)) (by rw [up_nk (by omega)]) ?_
            refine x_iadd (pc := 892) C dL_act_892 ?_
            refine x_iast (pc := 893) (o := 211) C dL_act_893 (hI 211 rfl) ⟨rfl, rfl⟩ (show _ < 30 by omega) (by decide) ?_
            refine x_aload (pc := 894) C dL_act_894 rfl ?_
            refine x_iconst (pc := 896) C (5) dL_act_896 (by decide) ?_
            refine x_iload (pc := 897) C dL_act_897 rfl ?_
            refine x_imul (pc := 899) C dL_act_899 ?_
            refine x_topi (nI (5 * g)) (pk_mul (5) (g)) ?_
            refine x_iconst (pc := 900) C (3) dL_act_900 (by decide) ?_
            refine x_iadd (pc := 901) C dL_act_901 ?_
            refine x_topi (nI (5 * g + 3)) (nI_add (5 * g) (3)) ?_
            refine x_dup2 (pc := 902) C dL_act_902 rfl rfl ?_
            refine x_iald (pc := 903) (o := 211) C dL_act_903 (hI 211 rfl) ⟨rfl, rfl⟩ (show _ < 30 by omega) (by decide) ?_
            refine x_topi (Mg 211 (5 * g + 3)) (by rw [up_nk (by omega), up_nk (by omega)]) ?_
            refine x_iload (pc := 904) C dL_act_904 rfl ?_
            refine x_iadd (pc := 906) C dL_act_906 ?_
            refine x_iast (pc := 907) (o := 211) C dL_act_907 (hI 211 rfl) ⟨rfl, rfl⟩ (show _ < 30 by omega) (by decide) ?_
            refine x_aload (pc := 908) C dL_act_908 rfl ?_
            refine x_iconst (pc := 910) C (5) dL_act_910 (by decide) ?_
            refine x_iload (pc := 911) C dL_act_911 rfl ?_
            refine x_imul (pc := 913) C dL_act_913 ?_
            refine x_topi (nI (5 * g)) (pk_mul (5) (g)) ?_
            refine x_iconst (pc := 914) C (4) dL_act_914 (by decide) ?_
            refine x_iadd (pc := 915) C dL_act_915 ?_
            refine x_topi (nI (5 * g + 4)) (nI_add (5 * g) (4)) ?_
            refine x_dup2 (pc := 916) C dL_act_916 rfl rfl ?_
            refine x_iald (pc := 917) (o := 211) C dL_act_917 (hI 211 rfl) ⟨rfl, rfl⟩ (show _ < 30 by omega) (by decide) ?_
            refine x_topi (Mg 211 (5 * g + 4)) (by rw [up_nk (by omega), up_nk (by omega), up_nk (by omega)]) ?_
            refine x_iload (pc := 918) C dL_act_918 rfl ?_
            refine x_iload (pc := 920) C dL_act_920 rfl ?_
            refine x_isub (pc := 922) C dL_act_922 ?_
            refine x_iadd (pc := 923) C dL_act_923 ?_
            refine x_iast (pc := 924) (o := 211) C dL_act_924 (hI 211 rfl) ⟨rfl, rfl⟩ (show _ < 30 by omega) (by decide) ?_
            refine y_iinc (pc := 925) C (nI (g + 1)) dL_act_925 rfl (by exact nI_1 g) (by decide) rfl ?_
            refine x_goto (pc := 928) (tgt := 736) C dL_act_928 (by decide) ?_
            refine x_fgt 12 ?_
            refine x_fgt 13 ?_
            refine x_fgt 14 ?_
            exact ih (g + 1) _ (by omega) (acc_s hA (by omega) hgb har rfl hke)
          refine x_iload (pc := 810) C dL_act_810 rfl ?_
          refine x_aload (pc := 812) C dL_act_812 rfl ?_
          refine x_gS2 (pc := 814) C [218] hJ s_L_22 dL_act_814 (c_L_allowance hI g (by omega)) (by decide) rfl ⟨by omega, by omega⟩ ?_
          refine x_iload (pc := 817) C dL_act_817 rfl ?_
          refine x_isub (pc := 819) C dL_act_819 ?_
          refine y_istore (pc := 820) C dL_act_820 (by decide) rfl ?_
          refine x_iload (pc := 822) C dL_act_822 rfl ?_
          refine x_aload (pc := 824) C dL_act_824 rfl ?_
          refine x_bipush (pc := 826) C (7) dL_act_826 (by decide) ?_
          refine x_topi (nI 7) (by decide) ?_
          refine x_iald (pc := 828) (o := 210) C dL_act_828 (hI 210 rfl) ⟨rfl, rfl⟩ (show _ < 8 by decide) (by decide) ?_
          refine x_topi (V 201 7) ((congrFun (hA.1 210 (by decide) (by decide)) _).trans (ht.se _ (by omega))) ?_
          refine x_icmp_le (pc := 829) (tgt := 840) C dL_act_829 (by decide) (fun h829 => ?_) (fun h829 => ?_)
          · refine x_iload (pc := 840) C dL_act_840 rfl ?_
            refine x_aload (pc := 842) C dL_act_842 rfl ?_
            refine x_bipush (pc := 844) C (7) dL_act_844 (by decide) ?_
            refine x_topi (nI 7) (by decide) ?_
            refine x_iald (pc := 846) (o := 210) C dL_act_846 (hI 210 rfl) ⟨rfl, rfl⟩ (show _ < 8 by decide) (by decide) ?_
            refine x_topi (V 201 7) ((congrFun (hA.1 210 (by decide) (by decide)) _).trans (ht.se _ (by omega))) ?_
            refine x_ineg (pc := 847) C dL_act_847 ?_
            refine x_icmp_ge (pc := 848) (tgt := 860) C dL_act_848 (by decide) (fun h848 => ?_) (fun h848 => ?_)
            · refine x_iload (pc := 860) C dL_act_860 rfl ?_
              exact J862 _ (by rw [if_neg (Int32.not_lt.mpr h829), if_neg (Int32.not_lt.mpr h848)])
            · refine x_aload (pc := 851) C dL_act_851 rfl ?_
              refine x_bipush (pc := 853) C (7) dL_act_853 (by decide) ?_
              refine x_topi (nI 7) (by decide) ?_
              refine x_iald (pc := 855) (o := 210) C dL_act_855 (hI 210 rfl) ⟨rfl, rfl⟩ (show _ < 8 by decide) (by decide) ?_
              refine x_topi (V 201 7) ((congrFun (hA.1 210 (by decide) (by decide)) _).trans (ht.se _ (by omega))) ?_
              refine x_ineg (pc := 856) C dL_act_856 ?_
              refine x_goto (pc := 857) (tgt := 862) C dL_act_857 (by decide) ?_
              exact J862 _ (by rw [if_neg (Int32.not_lt.mpr h829), if_pos (Int32.not_le.mp h848)])
          · refine x_aload (pc := 832) C dL_act_832 rfl ?_
            refine x_bipush (pc := 834) C (7) dL_act_834 (by decide) ?_
            refine x_topi (nI 7) (by decide) ?_
            refine x_iald (pc := 836) (o := 210) C dL_act_836 (hI 210 rfl) ⟨rfl, rfl⟩ (show _ < 8 by decide) (by decide) ?_
            refine x_topi (V 201 7) ((congrFun (hA.1 210 (by decide) (by decide)) _).trans (ht.se _ (by omega))) ?_
            refine x_goto (pc := 837) (tgt := 862) C dL_act_837 (by decide) ?_
            exact J862 _ (by rw [if_pos (Int32.not_le.mp h829)])
        | succ k2 ih2 =>
          intro i ar hk2 hinv2
          refine x_iload (pc := 749) C dL_act_749 rfl ?_
          refine x_aload (pc := 751) C dL_act_751 rfl ?_
          refine x_iconst (pc := 753) C (1) dL_act_753 (by decide) ?_
          refine x_topi (nI 1) (by decide) ?_
          refine x_iald (pc := 754) (o := 212) C dL_act_754 (hI 212 rfl) ⟨rfl, rfl⟩ (show _ < 3 by decide) (by decide) ?_
          refine x_topi (nI n) ((congrFun (hA.1 212 (by decide) (by decide)) 1).trans ht.d1) ?_
          refine x_icmp_ge (pc := 755) (tgt := 810) C dL_act_755 (by decide) (fun h755 => absurd h755 (by exact nI_ge (by omega) (by omega))) (fun h755 => ?_)
          refine x_iload (pc := 758) C dL_act_758 rfl ?_
          refine x_aload (pc := 760) C dL_act_760 rfl ?_
          refine x_bipush (pc := 762) C (9) dL_act_762 (by decide) ?_
          refine x_iload (pc := 764) C dL_act_764 rfl ?_
          refine x_imul (pc := 766) C dL_act_766 ?_
          refine x_topi (nI (9 * i)) (pk_mul (9) (i)) ?_
          refine x_iconst (pc := 767) C (1) dL_act_767 (by decide) ?_
          refine x_iadd (pc := 768) C dL_act_768 ?_
          refine x_topi (nI (9 * i + 1)) (nI_add (9 * i) (1)) ?_
          refine x_iald (pc := 769) (o := 213) C dL_act_769 (hI 213 rfl) ⟨rfl, rfl⟩ (show _ < 63 by omega) (by decide) ?_
          refine x_topi (RF V 1 i) ((congrFun (hA.1 213 (by decide) (by decide)) _).trans (ht.f (k := 1) (s := i) (by omega) (by decide))) ?_
          refine x_iload (pc := 770) C dL_act_770 rfl ?_
          refine x_icmp_ne (pc := 772) (tgt := 800) C dL_act_772 (by decide) (fun h772 => ?_) (fun h772 => ?_)
          · refine x_iconst (pc := 800) C (0) dL_act_800 (by decide) ?_
            refine x_iadd (pc := 801) C dL_act_801 ?_
            refine y_istore (pc := 802) C dL_act_802 (by decide) rfl ?_
            refine y_iinc (pc := 804) C (nI (i + 1)) dL_act_804 rfl (by exact nI_1 i) (by decide) rfl ?_
            refine x_goto (pc := 807) (tgt := 749) C dL_act_807 (by decide) ?_
            exact ih2 (i + 1) _ (by omega) (by rw [hinv2, Int32.add_zero, sumTo, if_neg h772, Int32.add_zero])
          · refine x_aload (pc := 775) C dL_act_775 rfl ?_
            refine x_bipush (pc := 777) C (9) dL_act_777 (by decide) ?_
            refine x_iload (pc := 779) C dL_act_779 rfl ?_
            refine x_imul (pc := 781) C dL_act_781 ?_
            refine x_topi (nI (9 * i)) (pk_mul (9) (i)) ?_
            refine x_iald (pc := 782) (o := 213) C dL_act_782 (hI 213 rfl) ⟨rfl, rfl⟩ (show _ < 63 by omega) (by decide) ?_
            refine x_topi (RF V 0 i) ((congrFun (hA.1 213 (by decide) (by decide)) _).trans (ht.f (k := 0) (s := i) (by omega) (by decide))) ?_
            refine x_aload (pc := 783) C dL_act_783 rfl ?_
            refine x_iconst (pc := 785) C (4) dL_act_785 (by decide) ?_
            refine x_iload (pc := 786) C dL_act_786 rfl ?_
            refine x_imul (pc := 788) C dL_act_788 ?_
            refine x_topi (nI (4 * i)) (pk_mul (4) (i)) ?_
            refine x_iconst (pc := 789) C (1) dL_act_789 (by decide) ?_
            refine x_iadd (pc := 790) C dL_act_790 ?_
            refine x_topi (nI (4 * i + 1)) (nI_add (4 * i) (1)) ?_
            refine x_iald (pc := 791) (o := 218) C dL_act_791 h218i ⟨rfl, rfl⟩ (show _ < 28 by omega) (by decide) ?_
            refine x_topi (airR (RF V) (V 201) 1 i) (hA.2.2 _ (by omega) 1 (by decide)) ?_
            refine x_aload (pc := 792) C dL_act_792 rfl ?_
            refine x_gS3 (pc := 794) C [218] hJ s_L_18 dL_act_794 (c_L_worth hI _ _ (shb_k (F := RF V) (hsb i (by omega)))) (by decide) rfl ⟨by omega, by omega⟩ ?_
            refine x_topi (worthF (V 201 5) (RF V 0 i) (airR (RF V) (V 201) 1 i)) (by rw [congrFun (hA.1 210 (by decide) (by decide)) 5, ht.se 5 (by decide)]) ?_
            refine x_goto (pc := 797) (tgt := 801) C dL_act_797 (by decide) ?_
            refine x_iadd (pc := 801) C dL_act_801 ?_
            refine y_istore (pc := 802) C dL_act_802 (by decide) rfl ?_
            refine y_iinc (pc := 804) C (nI (i + 1)) dL_act_804 rfl (by exact nI_1 i) (by decide) rfl ?_
            refine x_goto (pc := 807) (tgt := 749) C dL_act_807 (by decide) ?_
            exact ih2 (i + 1) _ (by omega) (by rw [hinv2, sumTo, if_pos h772])
    | succ k ih =>
      intro i M hk hd
      have hFA : FA (GF M) (RF V) n := fun k hk s hs => (congrFun (hd.1 213 (by omega)) _).trans (ht.f hs hk)
      have hGE : GEq (M 210) (V 201) := fun k hk => (congrFun (hd.1 210 (by omega)) k).trans (ht.se k hk)
      refine x_iload (pc := 706) C dL_act_706 rfl ?_
      refine x_bipush (pc := 708) C (7) dL_act_708 (by decide) ?_
      refine x_icmp_ge (pc := 710) (tgt := 733) C dL_act_710 (by decide) (fun h710 => absurd h710 (by exact nI_ge (a := i) (b := 7) (by omega) (by omega))) (fun h710 => ?_)
      refine x_iload (pc := 713) C dL_act_713 rfl ?_
      refine x_aload (pc := 715) C dL_act_715 rfl ?_
      refine x_aload (pc := 717) C dL_act_717 rfl ?_
      refine x_aload (pc := 719) C dL_act_719 rfl ?_
      refine x_aload (pc := 721) C dL_act_721 rfl ?_
      refine x_gS5 (pc := 723) C [218] hJ s_L_30 dL_act_723 (c_L_clock (V := M) hI h218i ((congrFun (hd.1 212 (by omega)) 1).trans ht.d1) hn6 (shB_fg hFA hsb) (nI i)) (by decide) rfl ⟨by omega, by omega⟩ ?_
      refine x_pop (pc := 726) C dL_act_726 rfl ?_
      refine y_iinc (pc := 727) C (nI (i + 1)) dL_act_727 rfl (by exact nI_1 i) (by decide) rfl ?_
      refine x_goto (pc := 730) (tgt := 706) C dL_act_730 (by decide) ?_
      exact ih (i + 1) _ (by omega) ⟨fun j hj => by rw [ckW_no (by omega)]; exact hd.1 j hj, fun s hs a k hk => if e : RF V 2 s = nI i then (by have := ckW_at (o := 218) (V := M) (n := n) (d := nI i) (k := k) (s := s) hs (by rw [hFA 2 (by decide) s hs]; exact e) hk; rw [air_cg hFA hGE hs] at this; exact this) else (by
          have e2 : ckW 218 M (nI i) n 218 (4 * s + k) = M 218 (4 * s + k) := by unfold ckW; rw [if_neg (fun z => e (by have := z.2.2; rw [show (4 * s + k) / 4 = s by omega, hFA 2 (by decide) s hs] at this; exact this))]
          rw [e2]; exact hd.2 s hs ((day_lt (by omega) a).elim id (fun z => absurd z e)) k hk)⟩
  have J616 : ∀ q9 : Nat, q9 < n → Wx E 616 [some (aR 0), some (aI ac), some (aI x), some (aI y), some (aI (nI T)), some (aR 210), some (aR 211), some (aR 212), some (aR 213), some (aI (nI q9)), none, none, none, none, none, none, none, none, none] [] V L N I 0 0 := by
    intro q9 hq9
    refine x_aload (pc := 616) C dL_act_616 rfl ?_
    refine x_bipush (pc := 618) C (9) dL_act_618 (by decide) ?_
    refine x_iload (pc := 620) C dL_act_620 rfl ?_
    refine x_imul (pc := 622) C dL_act_622 ?_
    refine x_topi (nI (9 * q9)) (pk_mul (9) (q9)) ?_
    refine x_iald (pc := 623) (o := 213) C dL_act_623 (hI 213 rfl) ⟨rfl, rfl⟩ (show _ < 63 by omega) (by decide) ?_
    refine x_topi (RF V 0 q9) (ht.f (k := 0) (s := q9) (by omega) (by decide)) ?_
    refine x_if_eq (pc := 624) (tgt := 629) C dL_act_624 (by decide) (fun h624 => ?_) (fun h624 => ?_)
    · have h0 : RF V 0 q9 = 0 := h624
      refine x_aload (pc := 629) C dL_act_629 rfl ?_
      refine x_bipush (pc := 631) C (9) dL_act_631 (by decide) ?_
      refine x_iload (pc := 633) C dL_act_633 rfl ?_
      refine x_imul (pc := 635) C dL_act_635 ?_
      refine x_topi (nI (9 * q9)) (pk_mul (9) (q9)) ?_
      refine x_bipush (pc := 636) C (6) dL_act_636 (by decide) ?_
      refine x_iadd (pc := 638) C dL_act_638 ?_
      refine x_topi (nI (9 * q9 + 6)) (nI_add (9 * q9) (6)) ?_
      refine x_iald (pc := 639) (o := 213) C dL_act_639 (hI 213 rfl) ⟨rfl, rfl⟩ (show _ < 63 by omega) (by decide) ?_
      refine x_topi (RF V 6 q9) (ht.f (k := 6) (s := q9) (by omega) (by decide)) ?_
      refine y_istore (pc := 640) C dL_act_640 (by decide) rfl ?_
      obtain ⟨b1, hb1, eb1⟩ := at_n y (n := 181) (by decide) (by decide)
      have tb1 := by_t (k := b1) (by omega)
      refine x_aload (pc := 642) C dL_act_642 rfl ?_
      refine x_bipush (pc := 644) C (9) dL_act_644 (by decide) ?_
      refine x_iload (pc := 646) C dL_act_646 rfl ?_
      refine x_imul (pc := 648) C dL_act_648 ?_
      refine x_topi (nI (9 * q9)) (pk_mul (9) (q9)) ?_
      refine x_bipush (pc := 649) C (6) dL_act_649 (by decide) ?_
      refine x_iadd (pc := 651) C dL_act_651 ?_
      refine x_topi (nI (9 * q9 + 6)) (nI_add (9 * q9) (6)) ?_
      refine x_iload_n (pc := 652) C dL_act_652 rfl ?_
      refine x_sipush (pc := 653) C (181) dL_act_653 (by decide) ?_
      refine x_gS2 (pc := 656) C [] (fun _ h => nomatch h) s_L_47 dL_act_656 (c_L_at _ 181 (by decide)) (by decide) rfl ⟨by omega, by omega⟩ ?_
      refine x_topi (nI b1) eb1 ?_
      refine x_bipush (pc := 659) C (60) dL_act_659 (by decide) ?_
      refine x_isub (pc := 661) C dL_act_661 ?_
      refine x_iast (pc := 662) (o := 213) C dL_act_662 (hI 213 rfl) ⟨rfl, rfl⟩ (show _ < 63 by omega) (by decide) ?_
      refine x_aload_n (pc := 663) C dL_act_663 rfl ?_
      refine x_iload (pc := 664) C dL_act_664 rfl ?_
      refine x_aload (pc := 666) C dL_act_666 rfl ?_
      refine x_bipush (pc := 668) C (9) dL_act_668 (by decide) ?_
      refine x_iload (pc := 670) C dL_act_670 rfl ?_
      refine x_imul (pc := 672) C dL_act_672 ?_
      refine x_topi (nI (9 * q9)) (pk_mul (9) (q9)) ?_
      refine x_bipush (pc := 673) C (6) dL_act_673 (by decide) ?_
      refine x_iadd (pc := 675) C dL_act_675 ?_
      refine x_topi (nI (9 * q9 + 6)) (nI_add (9 * q9) (6)) ?_
      refine x_iald (pc := 676) (o := 213) C dL_act_676 (hI 213 rfl) ⟨rfl, rfl⟩ (show _ < 63 by omega) (by decide) ?_
      refine x_topi (nI b1 - 60) (up_ss) ?_
      refine x_mV2 (pc := 677) (o := 0) C [] (fun _ h => nomatch h) v_L_113 dL_act_677 (m_over (V := up V 213 (9 * q9 + 6) (nI b1 - 60)) (h.law fun i hi => up_nf (by omega)) hq9 (by rw [RF_z (up_nf (by decide))]; exact h0) (by rw [tb1]; omega)) (hI 0 rfl) rfl (by decide) rfl ⟨by omega, by omega⟩ (fun V2 N2 I2 hM => ?_)
      refine x_iload (pc := 680) C dL_act_680 rfl ?_
      refine x_icmp_ne (pc := 682) (tgt := 689) C dL_act_682 (by decide) (fun h682 => absurd (by rfl) h682) (fun h682 => ?_)
      refine x_iconst (pc := 685) C (1) dL_act_685 (by decide) ?_
      refine x_goto (pc := 686) (tgt := 690) C dL_act_686 (by decide) ?_
      exact x_zret (pc := 690) C hQ dL_act_690 (by decide) (act_mut h (W := up V 213 (9 * q9 + 6) (nI b1 - 60)) (fun i hi => up_nf (by omega)) (up_nf (by decide)) hM (fun V3 e hz h6 => tie_one h.2.1 ht hT hw (Or.inr (Or.inr ⟨rfl, q9, hq9, rfl, rfl⟩)) e hz h6)) (Nat.le_of_ble_eq_true rfl) (Nat.le_of_ble_eq_true rfl)
    · refine x_iconst (pc := 627) C (1) dL_act_627 (by decide) ?_
      exact x_zret (pc := 628) C hQ dL_act_628 (by decide) (act_same h ht hw su_r hT) (Nat.le_of_ble_eq_true rfl) (Nat.le_of_ble_eq_true rfl)
  have J462 : ∀ q9 : Nat, q9 < n → Wx E 462 [some (aR 0), some (aI ac), some (aI x), some (aI y), some (aI (nI T)), some (aR 210), some (aR 211), some (aR 212), some (aR 213), some (aI (nI q9)), none, none, none, none, none, none, none, none, none] [] V L N I 0 0 := by
    intro q9 hq9
    have J593 : ∀ (W : VV) (n1 c : Nat), RmB V W n q9 T n1 c → Wx E 593 [some (aR 0), some (aI ac), some (aI x), some (aI y), some (aI (nI T)), some (aR 210), some (aR 211), some (aR 212), some (aR 213), some (aI (nI q9)), some (aI (GF V 8 q9)), some (aI (nI c)), none, none, none, none, none, none, none] [] W L N I 0 0 := by
      intro W n1 c hB
      refine x_aload_n (pc := 593) C dL_act_593 rfl ?_
      refine x_iload (pc := 594) C dL_act_594 rfl ?_
      refine x_mV1 (pc := 596) (o := 0) C [] (fun _ h => nomatch h) v_L_110 dL_act_596 (m_remove (h.law fun j hj => hB.2.2.2.2.2.2.2.1 j (by omega) (by omega)) hq9) (hI 0 rfl) rfl (by decide) rfl ⟨by omega, by omega⟩ (fun V2 N2 I2 hM => ?_)
      refine x_iload (pc := 599) C dL_act_599 rfl ?_
      refine x_icmp_ne (pc := 601) (tgt := 608) C dL_act_601 (by decide) (fun h601 => absurd (by exact congrArg nI ((rmZ_cg (hB.2.2.2.2.2.2.2.1 201 (by decide) (by decide))).2.trans hB.2.1)) h601) (fun h601 => ?_)
      refine x_iconst (pc := 604) C (1) dL_act_604 (by decide) ?_
      refine x_goto (pc := 605) (tgt := 609) C dL_act_605 (by decide) ?_
      exact x_zret (pc := 609) C hQ dL_act_609 (by decide) (act_mut h (W := W) (fun j hj => hB.2.2.2.2.2.2.2.1 j (by omega) (by omega)) (hB.2.2.2.2.2.2.2.1 201 (by decide) (by decide)) hM (fun V3 e hz h6 => tie_rm hB ht hT hw e (hz.trans (rmZ_cg (hB.2.2.2.2.2.2.2.1 201 (by decide) (by decide))).1) (h6.trans (congrFun (hB.2.2.2.2.2.2.2.1 0 (by decide) (by decide)) 6)))) (Nat.le_of_ble_eq_true rfl) (Nat.le_of_ble_eq_true rfl)
    have JB : ∀ (k : Nat) (W : VV) (n1 c : Nat), RmB V W n q9 T n1 c → k ≤ q9 → Wx E 486 [some (aR 0), some (aI ac), some (aI x), some (aI y), some (aI (nI T)), some (aR 210), some (aR 211), some (aR 212), some (aR 213), some (aI (nI q9)), some (aI (GF V 8 q9)), some (aI (nI c)), some (aI (nI k - 1)), none, none, none, none, none, none] [] W L N I 0 0 := by
      intro k
      induction k with
      | zero =>
        intro W n1 c hB hk
        refine x_iload (pc := 486) C dL_act_486 rfl ?_
        refine x_if_lt (pc := 488) (tgt := 593) C dL_act_488 (by decide) (fun h488 => ?_) (fun h488 => absurd (by decide) h488)
        refine x_fgt 12 ?_
        exact J593 W n1 c hB
      | succ k ih =>
        intro W n1 c hB hk
        rw [nI_pred]
        have hkn : k < n1 := by have := hB.2.2.2.2.1; omega
        have hn16 := hB.2.2.2.1
        refine x_iload (pc := 486) C dL_act_486 rfl ?_
        refine x_if_lt (pc := 488) (tgt := 593) C dL_act_488 (by decide) (fun h488 => absurd h488 (by exact nI_pos (by omega))) (fun h488 => ?_)
        refine x_aload (pc := 491) C dL_act_491 rfl ?_
        refine x_bipush (pc := 493) C (9) dL_act_493 (by decide) ?_
        refine x_iload (pc := 495) C dL_act_495 rfl ?_
        refine x_imul (pc := 497) C dL_act_497 ?_
        refine x_topi (nI (9 * k)) (pk_mul (9) (k)) ?_
        refine x_bipush (pc := 498) C (8) dL_act_498 (by decide) ?_
        refine x_iadd (pc := 500) C dL_act_500 ?_
        refine x_topi (nI (9 * k + 8)) (nI_add (9 * k) (8)) ?_
        refine x_iald (pc := 501) (o := 213) C dL_act_501 (hI 213 rfl) ⟨rfl, rfl⟩ (show _ < 63 by omega) (by decide) ?_
        refine x_topi (GF W 8 k) (rfl) ?_
        refine x_iload (pc := 502) C dL_act_502 rfl ?_
        refine x_icmp_eq (pc := 504) (tgt := 538) C dL_act_504 (by decide) (fun h504 => absurd h504 (by exact (hB.2.2.2.2.2.2.2.2.2.1 k hkn).1)) (fun h504 => ?_)
        refine x_aload (pc := 507) C dL_act_507 rfl ?_
        refine x_bipush (pc := 509) C (9) dL_act_509 (by decide) ?_
        refine x_iload (pc := 511) C dL_act_511 rfl ?_
        refine x_imul (pc := 513) C dL_act_513 ?_
        refine x_topi (nI (9 * k)) (pk_mul (9) (k)) ?_
        refine x_iald (pc := 514) (o := 213) C dL_act_514 (hI 213 rfl) ⟨rfl, rfl⟩ (show _ < 63 by omega) (by decide) ?_
        refine x_topi (GF W 0 k) (rfl) ?_
        refine x_iconst (pc := 515) C (2) dL_act_515 (by decide) ?_
        refine x_icmp_ne (pc := 516) (tgt := 587) C dL_act_516 (by decide) (fun h516 => ?_) (fun h516 => ?_)
        · refine y_iinc (pc := 587) C (nI k - 1) dL_act_587 rfl (by exact pred_add k) (by decide) rfl ?_
          refine x_goto (pc := 590) (tgt := 486) C dL_act_590 (by decide) ?_
          exact ih W n1 c hB (by omega)
        · refine x_aload (pc := 519) C dL_act_519 rfl ?_
          refine x_bipush (pc := 521) C (9) dL_act_521 (by decide) ?_
          refine x_iload (pc := 523) C dL_act_523 rfl ?_
          refine x_imul (pc := 525) C dL_act_525 ?_
          refine x_topi (nI (9 * k)) (pk_mul (9) (k)) ?_
          refine x_bipush (pc := 526) C (7) dL_act_526 (by decide) ?_
          refine x_iadd (pc := 528) C dL_act_528 ?_
          refine x_topi (nI (9 * k + 7)) (nI_add (9 * k) (7)) ?_
          refine x_iald (pc := 529) (o := 213) C dL_act_529 (hI 213 rfl) ⟨rfl, rfl⟩ (show _ < 63 by omega) (by decide) ?_
          refine x_topi (GF W 7 k) (rfl) ?_
          refine x_iload (pc := 530) C dL_act_530 rfl ?_
          refine x_icmp_eq (pc := 532) (tgt := 538) C dL_act_532 (by decide) (fun h532 => absurd h532 (by exact fun z => (hB.2.2.2.2.2.2.2.2.2.1 k hkn).2 ⟨h516, z⟩)) (fun h532 => ?_)
          refine x_goto (pc := 535) (tgt := 587) C dL_act_535 (by decide) ?_
          refine y_iinc (pc := 587) C (nI k - 1) dL_act_587 rfl (by exact pred_add k) (by decide) rfl ?_
          refine x_goto (pc := 590) (tgt := 486) C dL_act_590 (by decide) ?_
          exact ih W n1 c hB (by omega)
    have J538 : ∀ (W : VV) (n1 k mc : Nat), W 212 1 = nI (n1 + 1) → k ≤ n1 → n1 + 1 ≤ 6 → Wx E 587 [some (aR 0), some (aI ac), some (aI x), some (aI y), some (aI (nI T)), some (aR 210), some (aR 211), some (aR 212), some (aR 213), some (aI (nI q9)), some (aI (GF V 8 q9)), some (aI (nI (mc + 1))), some (aI (nI (k))), none, none, none, none, none, none] [] (ldW W k n1) L N I 0 0 → Wx E 538 [some (aR 0), some (aI ac), some (aI x), some (aI y), some (aI (nI T)), some (aR 210), some (aR 211), some (aR 212), some (aR 213), some (aI (nI q9)), some (aI (GF V 8 q9)), some (aI (nI mc)), some (aI (nI (k))), none, none, none, none, none, none] [] W L N I 0 0 := by
      intro W n1 k mc hW1 hkn hn16 K
      refine y_iinc (pc := 538) C (nI (mc + 1)) dL_act_538 rfl (by exact nI_1 mc) (by decide) rfl ?_
      refine x_aload (pc := 541) C dL_act_541 rfl ?_
      refine x_iconst (pc := 543) C (1) dL_act_543 (by decide) ?_
      refine x_dup2 (pc := 544) C dL_act_544 rfl rfl ?_
      refine x_topi (nI 1) (by decide) ?_
      refine x_iald (pc := 545) (o := 212) C dL_act_545 (hI 212 rfl) ⟨rfl, rfl⟩ (show _ < 3 by decide) (by decide) ?_
      refine x_topi (nI (n1 + 1)) hW1 ?_
      refine x_iconst (pc := 546) C (1) dL_act_546 (by decide) ?_
      refine x_isub (pc := 547) C dL_act_547 ?_
      refine x_topi (nI n1) (nI_pred n1) ?_
      refine x_top2i (nI 1) (by decide) ?_
      refine x_iast (pc := 548) (o := 212) C dL_act_548 (hI 212 rfl) ⟨rfl, rfl⟩ (show _ < 3 by decide) (by decide) ?_
      refine x_bipush (pc := 549) C (9) dL_act_549 (by decide) ?_
      refine x_iload (pc := 551) C dL_act_551 rfl ?_
      refine x_imul (pc := 553) C dL_act_553 ?_
      refine x_topi (nI (9 * k)) (pk_mul (9) (k)) ?_
      refine y_istore (pc := 554) C dL_act_554 (by decide) rfl ?_
      refine x_mem (cpW_0 (i := k)) ?_
      suffices keyk2 : ∀ (k2 i : Nat) , k2 + i = 9 * n1 → (9 * k ≤ i) → Wx E 556 [some (aR 0), some (aI ac), some (aI x), some (aI y), some (aI (nI T)), some (aR 210), some (aR 211), some (aR 212), some (aR 213), some (aI (nI q9)), some (aI (GF V 8 q9)), some (aI (nI (mc + 1))), some (aI (nI (k))), some (aI (nI (i))), none, none, none, none, none] [] (cpW (up W 212 1 (nI n1)) k i) L N I 0 0 by
        exact keyk2 (9 * n1 - (9 * k)) (9 * k)  (by omega) (Nat.le_refl _)
      intro k2
      induction k2 with
      | zero =>
        intro i  hk2 hi2
        refine x_iload (pc := 556) C dL_act_556 rfl ?_
        refine x_bipush (pc := 558) C (9) dL_act_558 (by decide) ?_
        refine x_aload (pc := 560) C dL_act_560 rfl ?_
        refine x_iconst (pc := 562) C (1) dL_act_562 (by decide) ?_
        refine x_topi (nI 1) (by decide) ?_
        refine x_iald (pc := 563) (o := 212) C dL_act_563 (hI 212 rfl) ⟨rfl, rfl⟩ (show _ < 3 by decide) (by decide) ?_
        refine x_topi (nI n1) (by rw [cpW_f (by decide), up_ss]) ?_
        refine x_imul (pc := 564) C dL_act_564 ?_
        refine x_topi (nI (9 * n1)) (pk_mul (9) (n1)) ?_
        refine x_icmp_ge (pc := 565) (tgt := 587) C dL_act_565 (by decide) (fun h565 => ?_) (fun h565 => absurd (by exact nI_le (a := 9 * n1) (b := i) (by omega) (by omega)) h565)
        obtain rfl : i = 9 * n1 := by omega
        refine x_fgt 13 ?_
        refine x_mem cpW_e ?_
        exact K
      | succ k2 ih2 =>
        intro i  hk2 hi2
        refine x_iload (pc := 556) C dL_act_556 rfl ?_
        refine x_bipush (pc := 558) C (9) dL_act_558 (by decide) ?_
        refine x_aload (pc := 560) C dL_act_560 rfl ?_
        refine x_iconst (pc := 562) C (1) dL_act_562 (by decide) ?_
        refine x_topi (nI 1) (by decide) ?_
        refine x_iald (pc := 563) (o := 212) C dL_act_563 (hI 212 rfl) ⟨rfl, rfl⟩ (show _ < 3 by decide) (by decide) ?_
        refine x_topi (nI n1) (by rw [cpW_f (by decide), up_ss]) ?_
        refine x_imul (pc := 564) C dL_act_564 ?_
        refine x_topi (nI (9 * n1)) (pk_mul (9) (n1)) ?_
        refine x_icmp_ge (pc := 565) (tgt := 587) C dL_act_565 (by decide) (fun h565 => absurd h565 (by exact nI_ge (a := i) (b := 9 * n1) (by omega) (by omega))) (fun h565 => ?_)
        refine x_aload (pc := 568) C dL_act_568 rfl ?_
        refine x_iload (pc := 570) C dL_act_570 rfl ?_
        refine x_aload (pc := 572) C dL_act_572 rfl ?_
        refine x_iload (pc := 574) C dL_act_574 rfl ?_
        refine x_bipush (pc := 576) C (9) dL_act_576 (by decide) ?_
        refine x_iadd (pc := 578) C dL_act_578 ?_
        refine x_topi (nI (i + 9)) (nI_add (i) (9)) ?_
        refine x_iald (pc := 579) (o := 213) C dL_act_579 (hI 213 rfl) ⟨rfl, rfl⟩ (show _ < 63 by omega) (by decide) ?_
        refine x_iast (pc := 580) (o := 213) C dL_act_580 (hI 213 rfl) ⟨rfl, rfl⟩ (show _ < 63 by omega) (by decide) ?_
        refine y_iinc (pc := 581) C (nI (i + 1)) dL_act_581 rfl (by exact nI_1 i) (by decide) rfl ?_
        refine x_goto (pc := 584) (tgt := 556) C dL_act_584 (by decide) ?_
        refine x_mem (cpW_s hi2) ?_
        exact ih2 (i + 1) (by omega) (by omega)
    have JA : ∀ (k : Nat) (W U : VV) (n1 c : Nat), RmA V W U n q9 T k n1 (c + 1) → q9 + 1 ≤ k → Wx E 486 [some (aR 0), some (aI ac), some (aI x), some (aI y), some (aI (nI T)), some (aR 210), some (aR 211), some (aR 212), some (aR 213), some (aI (nI q9)), some (aI (GF V 8 q9)), some (aI (nI c)), some (aI (nI k - 1)), none, none, none, none, none, none] [] W L N I 0 0 := by
      intro k
      induction k with
      | zero =>
        intro W U n1 c hA hk
        omega
      | succ k ih =>
        intro W U n1 c hA hk
        rw [nI_pred]
        obtain ⟨n2, rfl⟩ : ∃ n2, n1 = n2 + 1 := ⟨n1 - 1, by have := hA.2.2.2.2.2.1; omega⟩
        have hkn : k < n2 + 1 := by have := hA.2.2.2.2.2.1; omega
        have hn16 := hA.2.2.2.2.1
        have hT9 := ht.2.1
        have hW1 : W 212 1 = nI (n2 + 1) := hA.2.2.2.2.2.2.2.2.2.1
        have hc7 := hA.2.2.2.2.2.2.2.1
        by_cases hkq : k = q9
        · subst hkq
          have hg8 : GF W 8 k = GF V 8 k := hA.2.2.2.2.2.2.2.2.1
          refine x_iload (pc := 486) C dL_act_486 rfl ?_
          refine x_if_lt (pc := 488) (tgt := 593) C dL_act_488 (by decide) (fun h488 => absurd h488 (by exact nI_pos (by omega))) (fun h488 => ?_)
          refine x_aload (pc := 491) C dL_act_491 rfl ?_
          refine x_bipush (pc := 493) C (9) dL_act_493 (by decide) ?_
          refine x_iload (pc := 495) C dL_act_495 rfl ?_
          refine x_imul (pc := 497) C dL_act_497 ?_
          refine x_topi (nI (9 * k)) (pk_mul (9) (k)) ?_
          refine x_bipush (pc := 498) C (8) dL_act_498 (by decide) ?_
          refine x_iadd (pc := 500) C dL_act_500 ?_
          refine x_topi (nI (9 * k + 8)) (nI_add (9 * k) (8)) ?_
          refine x_iald (pc := 501) (o := 213) C dL_act_501 (hI 213 rfl) ⟨rfl, rfl⟩ (show _ < 63 by omega) (by decide) ?_
          refine x_topi (GF W 8 k) (rfl) ?_
          refine x_iload (pc := 502) C dL_act_502 rfl ?_
          refine x_icmp_eq (pc := 504) (tgt := 538) C dL_act_504 (by decide) (fun h504 => ?_) (fun h504 => absurd (by exact hg8) h504)
          refine J538 W n2 k c hW1 (by omega) hn16 ?_
          refine y_iinc (pc := 587) C (nI k - 1) dL_act_587 rfl (by exact pred_add k) (by decide) rfl ?_
          refine x_goto (pc := 590) (tgt := 486) C dL_act_590 (by decide) ?_
          exact JB k _ n2 (c + 1) (rma_b hA hT9) (Nat.le_refl _)
        · have hpk : q9 < k := by omega
          have hr := rma_t hA hT9 hpk
          refine x_iload (pc := 486) C dL_act_486 rfl ?_
          refine x_if_lt (pc := 488) (tgt := 593) C dL_act_488 (by decide) (fun h488 => absurd h488 (by exact nI_pos (by omega))) (fun h488 => ?_)
          refine x_aload (pc := 491) C dL_act_491 rfl ?_
          refine x_bipush (pc := 493) C (9) dL_act_493 (by decide) ?_
          refine x_iload (pc := 495) C dL_act_495 rfl ?_
          refine x_imul (pc := 497) C dL_act_497 ?_
          refine x_topi (nI (9 * k)) (pk_mul (9) (k)) ?_
          refine x_bipush (pc := 498) C (8) dL_act_498 (by decide) ?_
          refine x_iadd (pc := 500) C dL_act_500 ?_
          refine x_topi (nI (9 * k + 8)) (nI_add (9 * k) (8)) ?_
          refine x_iald (pc := 501) (o := 213) C dL_act_501 (hI 213 rfl) ⟨rfl, rfl⟩ (show _ < 63 by omega) (by decide) ?_
          refine x_topi (GF W 8 k) (rfl) ?_
          refine x_iload (pc := 502) C dL_act_502 rfl ?_
          refine x_icmp_eq (pc := 504) (tgt := 538) C dL_act_504 (by decide) (fun h504 => absurd h504 (by exact hr.1)) (fun h504 => ?_)
          refine x_aload (pc := 507) C dL_act_507 rfl ?_
          refine x_bipush (pc := 509) C (9) dL_act_509 (by decide) ?_
          refine x_iload (pc := 511) C dL_act_511 rfl ?_
          refine x_imul (pc := 513) C dL_act_513 ?_
          refine x_topi (nI (9 * k)) (pk_mul (9) (k)) ?_
          refine x_iald (pc := 514) (o := 213) C dL_act_514 (hI 213 rfl) ⟨rfl, rfl⟩ (show _ < 63 by omega) (by decide) ?_
          refine x_topi (GF W 0 k) (rfl) ?_
          refine x_iconst (pc := 515) C (2) dL_act_515 (by decide) ?_
          refine x_icmp_ne (pc := 516) (tgt := 587) C dL_act_516 (by decide) (fun h516 => ?_) (fun h516 => ?_)
          · refine y_iinc (pc := 587) C (nI k - 1) dL_act_587 rfl (by exact pred_add k) (by decide) rfl ?_
            refine x_goto (pc := 590) (tgt := 486) C dL_act_590 (by decide) ?_
            exact ih W U (n2 + 1) c (rma_n hA (fun z => h516 (hr.2.mpr z).1)) (by omega)
          · refine x_aload (pc := 519) C dL_act_519 rfl ?_
            refine x_bipush (pc := 521) C (9) dL_act_521 (by decide) ?_
            refine x_iload (pc := 523) C dL_act_523 rfl ?_
            refine x_imul (pc := 525) C dL_act_525 ?_
            refine x_topi (nI (9 * k)) (pk_mul (9) (k)) ?_
            refine x_bipush (pc := 526) C (7) dL_act_526 (by decide) ?_
            refine x_iadd (pc := 528) C dL_act_528 ?_
            refine x_topi (nI (9 * k + 7)) (nI_add (9 * k) (7)) ?_
            refine x_iald (pc := 529) (o := 213) C dL_act_529 (hI 213 rfl) ⟨rfl, rfl⟩ (show _ < 63 by omega) (by decide) ?_
            refine x_topi (GF W 7 k) (rfl) ?_
            refine x_iload (pc := 530) C dL_act_530 rfl ?_
            refine x_icmp_eq (pc := 532) (tgt := 538) C dL_act_532 (by decide) (fun h532 => ?_) (fun h532 => ?_)
            · have hq7 := hr.2.mp ⟨h516, h532⟩
              have hc6 : c + 1 ≤ 6 := by omega
              refine J538 W n2 k c hW1 (by omega) hn16 ?_
              refine y_iinc (pc := 587) C (nI k - 1) dL_act_587 rfl (by exact pred_add k) (by decide) rfl ?_
              refine x_goto (pc := 590) (tgt := 486) C dL_act_590 (by decide) ?_
              exact ih _ _ n2 (c + 1) (rma_y hA hpk hq7 hc6) (by omega)
            · refine x_goto (pc := 535) (tgt := 587) C dL_act_535 (by decide) ?_
              refine y_iinc (pc := 587) C (nI k - 1) dL_act_587 rfl (by exact pred_add k) (by decide) rfl ?_
              refine x_goto (pc := 590) (tgt := 486) C dL_act_590 (by decide) ?_
              exact ih W U (n2 + 1) c (rma_n hA (fun z => h532 (hr.2.mpr z).2)) (by omega)
    refine x_aload (pc := 462) C dL_act_462 rfl ?_
    refine x_bipush (pc := 464) C (9) dL_act_464 (by decide) ?_
    refine x_iload (pc := 466) C dL_act_466 rfl ?_
    refine x_imul (pc := 468) C dL_act_468 ?_
    refine x_topi (nI (9 * q9)) (pk_mul (9) (q9)) ?_
    refine x_bipush (pc := 469) C (8) dL_act_469 (by decide) ?_
    refine x_iadd (pc := 471) C dL_act_471 ?_
    refine x_topi (nI (9 * q9 + 8)) (nI_add (9 * q9) (8)) ?_
    refine x_iald (pc := 472) (o := 213) C dL_act_472 (hI 213 rfl) ⟨rfl, rfl⟩ (show _ < 63 by omega) (by decide) ?_
    refine x_topi (GF V 8 q9) (rfl) ?_
    refine y_istore (pc := 473) C dL_act_473 (by decide) rfl ?_
    refine x_iconst (pc := 475) C (0) dL_act_475 (by decide) ?_
    refine y_istore (pc := 476) C dL_act_476 (by decide) rfl ?_
    refine x_aload (pc := 478) C dL_act_478 rfl ?_
    refine x_iconst (pc := 480) C (1) dL_act_480 (by decide) ?_
    refine x_topi (nI 1) (by decide) ?_
    refine x_iald (pc := 481) (o := 212) C dL_act_481 (hI 212 rfl) ⟨rfl, rfl⟩ (show _ < 3 by decide) (by decide) ?_
    refine x_topi (nI n) ht.d1 ?_
    refine x_iconst (pc := 482) C (1) dL_act_482 (by decide) ?_
    refine x_isub (pc := 483) C dL_act_483 ?_
    refine y_istore (pc := 484) C dL_act_484 (by decide) rfl ?_
    exact JA n V V n 0 (rma_0 h.2.1 ht hq9) (by omega)
  have J446 : ¬ nI n = 0 → Wx E 446 [some (aR 0), some (aI ac), some (aI x), some (aI y), some (aI (nI T)), some (aR 210), some (aR 211), some (aR 212), some (aR 213), none, none, none, none, none, none, none, none, none, none] [] V L N I 0 0 := by
    intro hn0
    refine x_iload_n (pc := 446) C dL_act_446 rfl ?_
    refine x_aload (pc := 447) C dL_act_447 rfl ?_
    refine x_iconst (pc := 449) C (1) dL_act_449 (by decide) ?_
    refine x_topi (nI 1) (by decide) ?_
    refine x_iald (pc := 450) (o := 212) C dL_act_450 (hI 212 rfl) ⟨rfl, rfl⟩ (show _ < 3 by decide) (by decide) ?_
    refine x_topi (nI n) ht.d1 ?_
    refine x_gS2 (pc := 451) C [] (fun _ h => nomatch h) s_L_47 dL_act_451 (c_L_at _ (nI n) (fun z => hn0 z)) (by decide) rfl ⟨by omega, by omega⟩ ?_
    obtain ⟨q9, hq9, eq9⟩ := at_n x (n := n) (Nat.pos_of_ne_zero fun z => hn0 (by rw [z]; rfl)) (by omega)
    refine x_topi (nI q9) eq9 ?_
    refine y_istore (pc := 454) C dL_act_454 (by decide) rfl ?_
    refine x_iload_n (pc := 456) C dL_act_456 rfl ?_
    refine x_bipush (pc := 457) C (8) dL_act_457 (by decide) ?_
    refine x_icmp_ne (pc := 459) (tgt := 610) C dL_act_459 (by decide) (fun h459 => ?_) (fun h459 => ?_)
    · refine x_iload_n (pc := 610) C dL_act_610 rfl ?_
      refine x_bipush (pc := 611) C (12) dL_act_611 (by decide) ?_
      refine x_icmp_ge (pc := 613) (tgt := 691) C dL_act_613 (by decide) (fun h613 => ?_) (fun h613 => ?_)
      · refine x_iload_n (pc := 691) C dL_act_691 rfl ?_
        refine x_bipush (pc := 692) C (12) dL_act_692 (by decide) ?_
        refine x_icmp_ne (pc := 694) (tgt := 986) C dL_act_694 (by decide) (fun h694 => ?_) (fun h694 => ?_)
        · refine x_iload_n (pc := 986) C dL_act_986 rfl ?_
          refine x_bipush (pc := 987) C (13) dL_act_987 (by decide) ?_
          refine x_icmp_ne (pc := 989) (tgt := 1063) C dL_act_989 (by decide) (fun h989 => ?_) (fun h989 => ?_)
          · exact J1063 q9
          · exact J992 q9
        · exact J697 q9
      · exact J616 q9 hq9
    · exact J462 q9 hq9
  have J235 : ∀ (kd ln sp og st : Int32) (gN dd q : Nat), n < 6 → gN < 6 → rightB (nI gN) (nI dd) st ln sp = true → (((kd = 0 ∨ kd = 1) ∧ og = -1) ∨ (kd = 2 ∧ q < n ∧ og = GF V 8 q ∧ RF V 1 q = nI gN ∧ ln = RF V 4 q ∧ sp = 0)) → Wx E 235 [some (aR 0), some (aI ac), some (aI x), some (aI y), some (aI (nI T)), some (aR 210), some (aR 211), some (aR 212), some (aR 213), some (aI (nI dd)), some (aI st), none, none, none, none, none, none, none, none] [] (layV V n kd (nI gN) (nI dd) st ln sp og (nI T)) L N I 0 0 := by
    intro kd ln sp og st gN dd q hn5 hgN hr hc
    obtain ⟨W, eW⟩ : ∃ W, W = layV V n kd (nI gN) (nI dd) st ln sp og (nI T) := ⟨_, rfl⟩
    have hs1 : Su n (9 * n) V (layV V n kd (nI gN) (nI dd) st ln sp og (nI T)) := su_r.lay
    obtain ⟨a0, a1, a2, a3, a4, a5, a6, a7, a8⟩ := lay_at (M := V) (n := n) (k := kd) (g := nI gN) (d := nI dd) (st := st) (ln := ln) (sp := sp) (o := og) (id := nI T)
    have hk2 : kd = 2 → q < n ∧ og = GF V 8 q := fun z => hc.elim (fun c => by rcases c.1 with c1 | c1 <;> rw [c1] at z <;> exact absurd z (by decide)) (fun c => ⟨c.2.1, c.2.2.1⟩)
    have hk0 : kd = 0 ∨ kd = 1 ∨ kd = 2 := hc.elim (fun c => c.1.elim Or.inl (fun z => Or.inr (Or.inl z))) (fun c => Or.inr (Or.inr c.1))
    obtain ⟨r1, r2, r3, r4, r5⟩ := right_t hr
    refine x_bipush (pc := 235) C (9) dL_act_235 (by decide) ?_
    refine x_aload (pc := 237) C dL_act_237 rfl ?_
    refine x_iconst (pc := 239) C (1) dL_act_239 (by decide) ?_
    refine x_topi (nI 1) (by decide) ?_
    refine x_iald (pc := 240) (o := 212) C dL_act_240 (hI 212 rfl) ⟨rfl, rfl⟩ (show _ < 3 by decide) (by decide) ?_
    refine x_topi (nI n) (hs1.d1 ht) ?_
    refine x_imul (pc := 241) C dL_act_241 ?_
    refine x_topi (nI (9 * n)) (pk_mul (9) (n)) ?_
    refine y_istore (pc := 242) C dL_act_242 (by decide) rfl ?_
    refine x_aload (pc := 244) C dL_act_244 rfl ?_
    refine x_aload (pc := 246) C dL_act_246 rfl ?_
    refine x_aload (pc := 248) C dL_act_248 rfl ?_
    refine x_aload (pc := 250) C dL_act_250 rfl ?_
    refine x_gS4 (pc := 252) C [] (fun _ h => nomatch h) s_L_83 dL_act_252 (tl_why hI hPR ht (su_r (V := V)) (k := kd) (d := nI dd) (st := st) (ln := ln) (sp := sp) (o := og) (id := nI T) (g := gN) (q := q) hk0 hgN r2 r3 r4 r5 hk2) (by decide) rfl ⟨by omega, by omega⟩ ?_
    refine y_istore (pc := 255) C dL_act_255 (by decide) rfl ?_
    refine x_iload (pc := 257) C dL_act_257 rfl ?_
    refine x_if_le (pc := 259) (tgt := 314) C dL_act_259 (by decide) (fun h259 => ?_) (fun h259 => ?_)
    · have hz : (refR (RF V) (V 201) (alN V gN) n kd (nI gN) (nI dd) st ln sp q) = 0 := (refR_n.elim id (fun z => absurd z (Int32.not_lt.mpr h259)))
      have eF : ∀ c, GF (up (layV V n kd (nI gN) (nI dd) st ln sp og (nI T)) 212 2 0) c n = GF (layV V n kd (nI gN) (nI dd) st ln sp og (nI T)) c n := fun c => by show (up (layV V n kd (nI gN) (nI dd) st ln sp og (nI T)) 212 2 0) 213 _ = _; rw [up_no (by decide)]; rfl
      have eL : ∀ c, c < 9 → ∀ s, s < n → GF (up (layV V n kd (nI gN) (nI dd) st ln sp og (nI T)) 212 2 0) c s = GF V c s := fun c hcc s hs => by show (up (layV V n kd (nI gN) (nI dd) st ln sp og (nI T)) 212 2 0) 213 _ = _; rw [up_no (by decide)]; exact lay_lo hs hcc
      have hp : plcR (keyS (GF (up (layV V n kd (nI gN) (nI dd) st ln sp og (nI T)) 212 2 0))) (keyS (GF (up (layV V n kd (nI gN) (nI dd) st ln sp og (nI T)) 212 2 0)) n) n = (plcR (keyS (RF V)) (1440 * nI dd + st) n) := by
        have e1 : keyS (GF (up (layV V n kd (nI gN) (nI dd) st ln sp og (nI T)) 212 2 0)) n = 1440 * nI dd + st := by unfold keyS; rw [eF 2, eF 3, a2, a3]
        rw [e1]; exact plc_cg fun s hs => by unfold keyS; rw [eL 2 (by decide) s hs, eL 3 (by decide) s hs, ht.f hs (by decide), ht.f hs (by decide)]
      have hd1W : (up (layV V n kd (nI gN) (nI dd) st ln sp og (nI T)) 212 2 0) 212 1 = nI n := by rw [up_nk (by decide), lay_no (by decide)]; exact ht.d1
      have hple := plcR_le (key := keyS (RF V)) (x := 1440 * nI dd + st) n
      have hlw : ∀ j, j < 210 → snkV (up (layV V n kd (nI gN) (nI dd) st ln sp og (nI T)) 212 2 0) n (plcR (keyS (RF V)) (1440 * nI dd + st) n) j = V j := fun j hj => by rw [sn_nf (by omega) (by omega), up_nf (by omega), lay_no (by omega)]
      have hcp : ∀ j, 214 ≤ j ∧ j ≤ 217 → snkV (up (layV V n kd (nI gN) (nI dd) st ln sp og (nI T)) 212 2 0) n (plcR (keyS (RF V)) (1440 * nI dd + st) n) j = V j := fun j hj => by rw [sn_nf (by omega) (by omega), up_nf (by omega), lay_no (by omega)]
      have hzR := hlw 201 (by decide)
      have hcpR := hcp
      have J392 : ∀ x13 : Int32, (kd = 2 → x13 = nI q) → Wx E 392 [some (aR 0), some (aI ac), some (aI x), some (aI y), some (aI (nI T)), some (aR 210), some (aR 211), some (aR 212), some (aR 213), some (aI (nI dd)), some (aI st), none, none, some (aI x13), some (aI kd), some (aI (nI gN)), some (aI ln), some (aI sp), some (aI (nI (plcR (keyS (RF V)) (1440 * nI dd + st) n)))] [] (snkV (up (layV V n kd (nI gN) (nI dd) st ln sp og (nI T)) 212 2 0) n (plcR (keyS (RF V)) (1440 * nI dd + st) n)) L N I 1 6 := by
        intro x13 h13
        refine x_iload (pc := 392) C dL_act_392 rfl ?_
        refine x_iconst (pc := 394) C (2) dL_act_394 (by decide) ?_
        refine x_icmp_ne (pc := 395) (tgt := 411) C dL_act_395 (by decide) (fun h395 => ?_) (fun h395 => ?_)
        · have hkA : kd = 0 ∨ kd = 1 := hc.elim (fun c => c.1) (fun c => absurd c.1 h395)
          have hogA : og = -1 := hc.elim (fun c => c.2) (fun c => absurd c.1 h395)
          refine x_aload_n (pc := 411) C dL_act_411 rfl ?_
          refine x_iload (pc := 412) C dL_act_412 rfl ?_
          refine x_if_ne (pc := 414) (tgt := 421) C dL_act_414 (by decide) (fun h414 => ?_) (fun h414 => ?_)
          · have hkx : kd = 1 := hkA.elim (fun z => absurd z h414) id
            subst hkx
            refine x_iconst (pc := 421) C (0) dL_act_421 (by decide) ?_
            refine x_iload (pc := 422) C dL_act_422 rfl ?_
            refine x_iload (pc := 424) C dL_act_424 rfl ?_
            refine x_iload (pc := 426) C dL_act_426 rfl ?_
            refine x_iload (pc := 428) C dL_act_428 rfl ?_
            refine x_iload (pc := 430) C dL_act_430 rfl ?_
            refine x_mV6 (pc := 432) (o := 0) C [] (fun _ h => nomatch h) v_L_106 dL_act_432 (new_add h hlw (x := 0) (by decide) (by decide) hgN hr hz) (hI 0 rfl) rfl (by decide) rfl ⟨by omega, by omega⟩ (fun V2 N2 I2 hM => ?_)
            refine x_iload (pc := 435) C dL_act_435 rfl ?_
            refine x_icmp_ne (pc := 437) (tgt := 444) C dL_act_437 (by decide) (fun h437 => absurd (by rfl) h437) (fun h437 => ?_)
            refine x_iconst (pc := 440) C (1) dL_act_440 (by decide) ?_
            refine x_goto (pc := 441) (tgt := 445) C dL_act_441 (by decide) ?_
            exact x_zret (pc := 445) C hQ dL_act_445 (by decide) (act_mut h hcpR hzR hM (fun V3 e hz2 h6 => new_tie h ht (by omega) hT hw (Or.inl ⟨by decide, rfl, hogA⟩) e hz2 h6)) (Nat.le_of_ble_eq_true rfl) (Nat.le_of_ble_eq_true rfl)
          · have hkx : kd = 0 := h414
            subst hkx
            refine x_iconst (pc := 417) C (1) dL_act_417 (by decide) ?_
            refine x_goto (pc := 418) (tgt := 422) C dL_act_418 (by decide) ?_
            refine x_iload (pc := 422) C dL_act_422 rfl ?_
            refine x_iload (pc := 424) C dL_act_424 rfl ?_
            refine x_iload (pc := 426) C dL_act_426 rfl ?_
            refine x_iload (pc := 428) C dL_act_428 rfl ?_
            refine x_iload (pc := 430) C dL_act_430 rfl ?_
            refine x_mV6 (pc := 432) (o := 0) C [] (fun _ h => nomatch h) v_L_106 dL_act_432 (new_add h hlw (x := 1) (by decide) (by decide) hgN hr hz) (hI 0 rfl) rfl (by decide) rfl ⟨by omega, by omega⟩ (fun V2 N2 I2 hM => ?_)
            refine x_iload (pc := 435) C dL_act_435 rfl ?_
            refine x_icmp_ne (pc := 437) (tgt := 444) C dL_act_437 (by decide) (fun h437 => absurd (by rfl) h437) (fun h437 => ?_)
            refine x_iconst (pc := 440) C (1) dL_act_440 (by decide) ?_
            refine x_goto (pc := 441) (tgt := 445) C dL_act_441 (by decide) ?_
            exact x_zret (pc := 445) C hQ dL_act_445 (by decide) (act_mut h hcpR hzR hM (fun V3 e hz2 h6 => new_tie h ht (by omega) hT hw (Or.inl ⟨by decide, rfl, hogA⟩) e hz2 h6)) (Nat.le_of_ble_eq_true rfl) (Nat.le_of_ble_eq_true rfl)
        · have hkd2 : kd = 2 := h395
          obtain ⟨hqn, hog, hgq, hlq, hsq⟩ : q < n ∧ og = GF V 8 q ∧ RF V 1 q = nI gN ∧ ln = RF V 4 q ∧ sp = 0 := hc.elim (fun c => by rcases c.1 with c1 | c1 <;> rw [c1] at hkd2 <;> exact absurd hkd2 (by decide)) (fun c => ⟨c.2.1, c.2.2.1, c.2.2.2.1, c.2.2.2.2.1, c.2.2.2.2.2⟩)
          have h13q := h13 hkd2
          subst h13q
          subst hkd2
          subst hlq
          subst hsq
          subst hog
          refine x_aload_n (pc := 398) C dL_act_398 rfl ?_
          refine x_iload (pc := 399) C dL_act_399 rfl ?_
          refine x_iload (pc := 401) C dL_act_401 rfl ?_
          refine x_iload (pc := 403) C dL_act_403 rfl ?_
          refine x_mV3 (pc := 405) (o := 0) C [] (fun _ h => nomatch h) v_L_103 dL_act_405 (new_rep h hlw hqn hgN hgq hr hz) (hI 0 rfl) rfl (by decide) rfl ⟨by omega, by omega⟩ (fun V2 N2 I2 hM => ?_)
          refine x_goto (pc := 408) (tgt := 435) C dL_act_408 (by decide) ?_
          refine x_iload (pc := 435) C dL_act_435 rfl ?_
          refine x_icmp_ne (pc := 437) (tgt := 444) C dL_act_437 (by decide) (fun h437 => absurd (by rfl) h437) (fun h437 => ?_)
          refine x_iconst (pc := 440) C (1) dL_act_440 (by decide) ?_
          refine x_goto (pc := 441) (tgt := 445) C dL_act_441 (by decide) ?_
          exact x_zret (pc := 445) C hQ dL_act_445 (by decide) (act_mut h hcpR hzR hM (fun V3 e hz2 h6 => new_tie h ht (by omega) hT hw (Or.inr ⟨rfl, q, hqn, rep_lt h.2.1 hqn r2 r3 hz, rfl, rfl⟩) e hz2 h6)) (Nat.le_of_ble_eq_true rfl) (Nat.le_of_ble_eq_true rfl)
      refine x_wid (a' := 1) (b' := 6) (by omega) (by omega) ?_
      refine x_aload (pc := 314) C dL_act_314 rfl ?_
      refine x_iconst (pc := 316) C (2) dL_act_316 (by decide) ?_
      refine x_iconst (pc := 317) C (0) dL_act_317 (by decide) ?_
      refine x_top2i (nI 2) (by decide) ?_
      refine x_iast (pc := 318) (o := 212) C dL_act_318 (hI 212 rfl) ⟨rfl, rfl⟩ (show _ < 3 by decide) (by decide) ?_
      refine x_aload (pc := 319) C dL_act_319 rfl ?_
      refine x_iload (pc := 321) C dL_act_321 rfl ?_
      refine x_iald (pc := 323) (o := 213) C dL_act_323 (hI 213 rfl) ⟨rfl, rfl⟩ (show _ < 63 by omega) (by decide) ?_
      refine x_topi (kd) ((eF 0).trans a0) ?_
      refine x_iconst (pc := 324) C (2) dL_act_324 (by decide) ?_
      refine x_icmp_ne (pc := 325) (tgt := 346) C dL_act_325 (by decide) (fun h325 => ?_) (fun h325 => ?_)
      · refine x_iconst (pc := 346) C (-1) dL_act_346 (by decide) ?_
        refine y_istore (pc := 347) C dL_act_347 (by decide) rfl ?_
        refine x_aload (pc := 349) C dL_act_349 rfl ?_
        refine x_iload (pc := 351) C dL_act_351 rfl ?_
        refine x_iald (pc := 353) (o := 213) C dL_act_353 (hI 213 rfl) ⟨rfl, rfl⟩ (show _ < 63 by omega) (by decide) ?_
        refine x_topi (kd) ((eF 0).trans a0) ?_
        refine y_istore (pc := 354) C dL_act_354 (by decide) rfl ?_
        refine x_aload (pc := 356) C dL_act_356 rfl ?_
        refine x_iload (pc := 358) C dL_act_358 rfl ?_
        refine x_iconst (pc := 360) C (1) dL_act_360 (by decide) ?_
        refine x_iadd (pc := 361) C dL_act_361 ?_
        refine x_topi (nI (9 * n + 1)) (nI_add (9 * n) (1)) ?_
        refine x_iald (pc := 362) (o := 213) C dL_act_362 (hI 213 rfl) ⟨rfl, rfl⟩ (show _ < 63 by omega) (by decide) ?_
        refine x_topi (nI gN) ((eF 1).trans a1) ?_
        refine y_istore (pc := 363) C dL_act_363 (by decide) rfl ?_
        refine x_aload (pc := 365) C dL_act_365 rfl ?_
        refine x_iload (pc := 367) C dL_act_367 rfl ?_
        refine x_iconst (pc := 369) C (4) dL_act_369 (by decide) ?_
        refine x_iadd (pc := 370) C dL_act_370 ?_
        refine x_topi (nI (9 * n + 4)) (nI_add (9 * n) (4)) ?_
        refine x_iald (pc := 371) (o := 213) C dL_act_371 (hI 213 rfl) ⟨rfl, rfl⟩ (show _ < 63 by omega) (by decide) ?_
        refine x_topi (ln) ((eF 4).trans a4) ?_
        refine y_istore (pc := 372) C dL_act_372 (by decide) rfl ?_
        refine x_aload (pc := 374) C dL_act_374 rfl ?_
        refine x_iload (pc := 376) C dL_act_376 rfl ?_
        refine x_iconst (pc := 378) C (5) dL_act_378 (by decide) ?_
        refine x_iadd (pc := 379) C dL_act_379 ?_
        refine x_topi (nI (9 * n + 5)) (nI_add (9 * n) (5)) ?_
        refine x_iald (pc := 380) (o := 213) C dL_act_380 (hI 213 rfl) ⟨rfl, rfl⟩ (show _ < 63 by omega) (by decide) ?_
        refine x_topi (sp) ((eF 5).trans a5) ?_
        refine y_istore (pc := 381) C dL_act_381 (by decide) rfl ?_
        refine x_aload (pc := 383) C dL_act_383 rfl ?_
        refine x_aload (pc := 385) C dL_act_385 rfl ?_
        refine x_gS2 (pc := 387) C [] (fun _ h => nomatch h) s_L_99 dL_act_387 (c_L_sink hI hd1W (by omega)) (by decide) rfl ⟨by omega, by omega⟩ ?_
        refine x_mem (show _ = snkV (up (layV V n kd (nI gN) (nI dd) st ln sp og (nI T)) 212 2 0) n (plcR (keyS (RF V)) (1440 * nI dd + st) n) by rw [hp]) ?_
        refine x_topi (nI (plcR (keyS (RF V)) (1440 * nI dd + st) n)) (congrArg nI hp) ?_
        refine y_istore (pc := 390) C dL_act_390 (by decide) rfl ?_
        refine x_fgt 11 ?_
        refine x_fgt 12 ?_
        exact J392 _ (fun z => absurd z h325)
      · have hqn : q < n := (hk2 h325).1
        refine x_aload (pc := 328) C dL_act_328 rfl ?_
        refine x_iload (pc := 330) C dL_act_330 rfl ?_
        refine x_bipush (pc := 332) C (7) dL_act_332 (by decide) ?_
        refine x_iadd (pc := 334) C dL_act_334 ?_
        refine x_topi (nI (9 * n + 7)) (nI_add (9 * n) (7)) ?_
        refine x_iald (pc := 335) (o := 213) C dL_act_335 (hI 213 rfl) ⟨rfl, rfl⟩ (show _ < 63 by omega) (by decide) ?_
        refine x_topi (og) ((eF 7).trans a7) ?_
        refine x_aload (pc := 336) C dL_act_336 rfl ?_
        refine x_aload (pc := 338) C dL_act_338 rfl ?_
        refine x_gS3 (pc := 340) C [] (fun _ h => nomatch h) s_L_8 dL_act_340 (c_L_byId hI hd1W hn6 _) (by decide) rfl ⟨by omega, by omega⟩ ?_
        refine x_topi (nI q) (by rw [show fstF (fun s => decide (GF (up (layV V n kd (nI gN) (nI dd) st ln sp og (nI T)) 212 2 0) 8 s = og)) n 0 = some q from (fstF_cg2 fun j hj => by rw [eL 8 (by decide) j hj, (hk2 h325).2]).trans (ht.by2 hqn)]; rfl) ?_
        refine x_goto (pc := 343) (tgt := 347) C dL_act_343 (by decide) ?_
        refine y_istore (pc := 347) C dL_act_347 (by decide) rfl ?_
        refine x_aload (pc := 349) C dL_act_349 rfl ?_
        refine x_iload (pc := 351) C dL_act_351 rfl ?_
        refine x_iald (pc := 353) (o := 213) C dL_act_353 (hI 213 rfl) ⟨rfl, rfl⟩ (show _ < 63 by omega) (by decide) ?_
        refine x_topi (kd) ((eF 0).trans a0) ?_
        refine y_istore (pc := 354) C dL_act_354 (by decide) rfl ?_
        refine x_aload (pc := 356) C dL_act_356 rfl ?_
        refine x_iload (pc := 358) C dL_act_358 rfl ?_
        refine x_iconst (pc := 360) C (1) dL_act_360 (by decide) ?_
        refine x_iadd (pc := 361) C dL_act_361 ?_
        refine x_topi (nI (9 * n + 1)) (nI_add (9 * n) (1)) ?_
        refine x_iald (pc := 362) (o := 213) C dL_act_362 (hI 213 rfl) ⟨rfl, rfl⟩ (show _ < 63 by omega) (by decide) ?_
        refine x_topi (nI gN) ((eF 1).trans a1) ?_
        refine y_istore (pc := 363) C dL_act_363 (by decide) rfl ?_
        refine x_aload (pc := 365) C dL_act_365 rfl ?_
        refine x_iload (pc := 367) C dL_act_367 rfl ?_
        refine x_iconst (pc := 369) C (4) dL_act_369 (by decide) ?_
        refine x_iadd (pc := 370) C dL_act_370 ?_
        refine x_topi (nI (9 * n + 4)) (nI_add (9 * n) (4)) ?_
        refine x_iald (pc := 371) (o := 213) C dL_act_371 (hI 213 rfl) ⟨rfl, rfl⟩ (show _ < 63 by omega) (by decide) ?_
        refine x_topi (ln) ((eF 4).trans a4) ?_
        refine y_istore (pc := 372) C dL_act_372 (by decide) rfl ?_
        refine x_aload (pc := 374) C dL_act_374 rfl ?_
        refine x_iload (pc := 376) C dL_act_376 rfl ?_
        refine x_iconst (pc := 378) C (5) dL_act_378 (by decide) ?_
        refine x_iadd (pc := 379) C dL_act_379 ?_
        refine x_topi (nI (9 * n + 5)) (nI_add (9 * n) (5)) ?_
        refine x_iald (pc := 380) (o := 213) C dL_act_380 (hI 213 rfl) ⟨rfl, rfl⟩ (show _ < 63 by omega) (by decide) ?_
        refine x_topi (sp) ((eF 5).trans a5) ?_
        refine y_istore (pc := 381) C dL_act_381 (by decide) rfl ?_
        refine x_aload (pc := 383) C dL_act_383 rfl ?_
        refine x_aload (pc := 385) C dL_act_385 rfl ?_
        refine x_gS2 (pc := 387) C [] (fun _ h => nomatch h) s_L_99 dL_act_387 (c_L_sink hI hd1W (by omega)) (by decide) rfl ⟨by omega, by omega⟩ ?_
        refine x_mem (show _ = snkV (up (layV V n kd (nI gN) (nI dd) st ln sp og (nI T)) 212 2 0) n (plcR (keyS (RF V)) (1440 * nI dd + st) n) by rw [hp]) ?_
        refine x_topi (nI (plcR (keyS (RF V)) (1440 * nI dd + st) n)) (congrArg nI hp) ?_
        refine y_istore (pc := 390) C dL_act_390 (by decide) rfl ?_
        refine x_fgt 11 ?_
        refine x_fgt 12 ?_
        exact J392 _ (fun _ => rfl)
    · refine x_aload (pc := 262) C dL_act_262 rfl ?_
      refine x_iload (pc := 264) C dL_act_264 rfl ?_
      refine x_iald (pc := 266) (o := 213) C dL_act_266 (hI 213 rfl) ⟨rfl, rfl⟩ (show _ < 63 by omega) (by decide) ?_
      refine x_topi (kd) (a0) ?_
      refine x_iconst (pc := 267) C (1) dL_act_267 (by decide) ?_
      refine x_icmp_ne (pc := 268) (tgt := 308) C dL_act_268 (by decide) (fun h268 => ?_) (fun h268 => ?_)
      · refine x_iconst (pc := 308) C (1) dL_act_308 (by decide) ?_
        refine x_goto (pc := 309) (tgt := 313) C dL_act_309 (by decide) ?_
        exact x_zret (pc := 313) C hQ dL_act_313 (by decide) (act_same h ht hw (by first | exact hs1.sq qa | exact hs1) hT) (Nat.le_of_ble_eq_true rfl) (Nat.le_of_ble_eq_true rfl)
      · have hkd1 : kd = 1 := h268
        refine x_aload (pc := 271) C dL_act_271 rfl ?_
        refine x_iload (pc := 273) C dL_act_273 rfl ?_
        refine x_iconst (pc := 275) C (5) dL_act_275 (by decide) ?_
        refine x_iadd (pc := 276) C dL_act_276 ?_
        refine x_topi (nI (9 * n + 5)) (nI_add (9 * n) (5)) ?_
        refine x_iald (pc := 277) (o := 213) C dL_act_277 (hI 213 rfl) ⟨rfl, rfl⟩ (show _ < 63 by omega) (by decide) ?_
        refine x_topi (sp) (a5) ?_
        refine x_if_gt (pc := 278) (tgt := 308) C dL_act_278 (by decide) (fun h278 => ?_) (fun h278 => ?_)
        · refine x_iconst (pc := 308) C (1) dL_act_308 (by decide) ?_
          refine x_goto (pc := 309) (tgt := 313) C dL_act_309 (by decide) ?_
          exact x_zret (pc := 313) C hQ dL_act_313 (by decide) (act_same h ht hw (by first | exact hs1.sq qa | exact hs1) hT) (Nat.le_of_ble_eq_true rfl) (Nat.le_of_ble_eq_true rfl)
        · have hsp0 : sp = 0 := t_eq.mpr (by have := t_le.mp (Int32.not_lt.mp h278); rw [t_0] at this ⊢; omega)
          refine x_aload_n (pc := 281) C dL_act_281 rfl ?_
          refine x_aload (pc := 282) C dL_act_282 rfl ?_
          refine x_iload (pc := 284) C dL_act_284 rfl ?_
          refine x_iconst (pc := 286) C (1) dL_act_286 (by decide) ?_
          refine x_iadd (pc := 287) C dL_act_287 ?_
          refine x_topi (nI (9 * n + 1)) (nI_add (9 * n) (1)) ?_
          refine x_iald (pc := 288) (o := 213) C dL_act_288 (hI 213 rfl) ⟨rfl, rfl⟩ (show _ < 63 by omega) (by decide) ?_
          refine x_topi (nI gN) (a1) ?_
          refine x_iload (pc := 289) C dL_act_289 rfl ?_
          refine x_iload (pc := 291) C dL_act_291 rfl ?_
          refine x_aload (pc := 293) C dL_act_293 rfl ?_
          refine x_iload (pc := 295) C dL_act_295 rfl ?_
          refine x_iconst (pc := 297) C (4) dL_act_297 (by decide) ?_
          refine x_iadd (pc := 298) C dL_act_298 ?_
          refine x_topi (nI (9 * n + 4)) (nI_add (9 * n) (4)) ?_
          refine x_iald (pc := 299) (o := 213) C dL_act_299 (hI 213 rfl) ⟨rfl, rfl⟩ (show _ < 63 by omega) (by decide) ?_
          refine x_topi (ln) (a4) ?_
          refine x_aV4 (pc := 300) (o := 0) C [] (fun _ h => nomatch h) v_L_79 dL_act_300 (k_why hI (hPR.su hs1) hgN (right_0 hr)) (hI 0 rfl) rfl (by decide) rfl ⟨by omega, by omega⟩ (fun Ma qa => ?_)
          refine x_topi (whyN V n gN (nI dd) st ln) (whyN_cg hs1.z) ?_
          refine x_iload (pc := 303) C dL_act_303 rfl ?_
          refine x_icmp_ne (pc := 305) (tgt := 312) C dL_act_305 (by decide) (fun h305 => absurd (by unfold whyN; rw [hkd1, hsp0, refR_o (by decide)]) h305) (fun h305 => ?_)
          refine x_iconst (pc := 308) C (1) dL_act_308 (by decide) ?_
          refine x_goto (pc := 309) (tgt := 313) C dL_act_309 (by decide) ?_
          exact x_zret (pc := 313) C hQ dL_act_313 (by decide) (act_same h ht hw (by first | exact hs1.sq qa | exact hs1) hT) (Nat.le_of_ble_eq_true rfl) (Nat.le_of_ble_eq_true rfl)
  have J77 : ∀ (dd : Nat) (st : Int32), dd < 7 → n < 6 → (0 ≤ st.toInt ∧ st.toInt ≤ 1439) → Wx E 77 [some (aR 0), some (aI ac), some (aI x), some (aI y), some (aI (nI T)), some (aR 210), some (aR 211), some (aR 212), some (aR 213), some (aI (nI dd)), some (aI st), none, none, none, none, none, none, none, none] [] V L N I 0 0 := by
    intro dd st hdd hn5 hst
    have tD : (nI dd).toInt = dd := t_nat (by omega)
    have J89 : Wx E 89 [some (aR 0), some (aI ac), some (aI x), some (aI y), some (aI (nI T)), some (aR 210), some (aR 211), some (aR 212), some (aR 213), some (aI (nI dd)), some (aI st), none, none, none, none, none, none, none, none] [] V L N I 0 0 := by
      have J119 : ∀ ln : Nat, 5 ≤ ln → ln ≤ 240 → Wx E 119 [some (aR 0), some (aI ac), some (aI x), some (aI y), some (aI (nI T)), some (aR 210), some (aR 211), some (aR 212), some (aR 213), some (aI (nI dd)), some (aI st), some (aI (nI (ln))), none, none, none, none, none, none, none] [] V L N I 0 0 := by
        intro ln hl5 hl
        obtain ⟨sp, hsp, esp⟩ := at_n (x >>> ((9 : Int32) &&& 31)) (n := 9) (by decide) (by decide)
        obtain ⟨kk, hkk, ekk⟩ := at_n x (n := 2) (by decide) (by decide)
        obtain ⟨gN, hgN, egN⟩ := at_n (x >>> ((4 : Int32) &&& 31)) (n := 6) (by decide) (by decide)
        have tK : nI kk = 0 ∨ nI kk = 1 := by rcases (show kk = 0 ∨ kk = 1 by omega) with rfl | rfl; exact Or.inl rfl; exact Or.inr rfl
        have J163 : ∀ sp2 : Nat, sp2 ≤ 8 → sp2 ≤ ln → Wx E 163 [some (aR 0), some (aI ac), some (aI x), some (aI y), some (aI (nI T)), some (aR 210), some (aR 211), some (aR 212), some (aR 213), some (aI (nI dd)), some (aI st), some (aI (nI (ln))), some (aI (nI (sp))), none, none, none, none, none, none] [aI (nI sp2), aI (nI ln), aI st, aI (nI dd), aI (nI gN), aI (nI kk)] V L N I 0 0 := by
          intro sp2 hs8 hsl
          refine x_iconst (pc := 163) C (-1) dL_act_163 (by decide) ?_
          refine x_iload (pc := 164) C dL_act_164 rfl ?_
          refine x_aload (pc := 166) C dL_act_166 rfl ?_
          refine x_aload (pc := 168) C dL_act_168 rfl ?_
          refine x_gS10 (pc := 170) C [] (fun _ h => nomatch h) s_L_75 dL_act_170 (c_L_lay hI ht.d1 hn6 _ _ _ _ _ _ _ _) (by decide) rfl ⟨by omega, by omega⟩ ?_
          refine x_goto (pc := 173) (tgt := 235) C dL_act_173 (by decide) ?_
          refine x_fgt 11 ?_
          refine x_fgt 12 ?_
          exact J235 _ _ _ _ _ gN dd 0 hn5 hgN (rb_ok hgN hdd hst (by omega) (by omega) (by omega)) (Or.inl ⟨tK, rfl⟩)
        refine x_iload_n (pc := 119) C dL_act_119 rfl ?_
        refine x_bipush (pc := 120) C (9) dL_act_120 (by decide) ?_
        refine x_ishr (pc := 122) C dL_act_122 ?_
        refine x_bipush (pc := 123) C (9) dL_act_123 (by decide) ?_
        refine x_gS2 (pc := 125) C [] (fun _ h => nomatch h) s_L_47 dL_act_125 (c_L_at _ 9 (by decide)) (by decide) rfl ⟨by omega, by omega⟩ ?_
        refine x_topi (nI sp) esp ?_
        refine y_istore (pc := 128) C dL_act_128 (by decide) rfl ?_
        refine x_iload_n (pc := 130) C dL_act_130 rfl ?_
        refine x_iconst (pc := 131) C (2) dL_act_131 (by decide) ?_
        refine x_gS2 (pc := 132) C [] (fun _ h => nomatch h) s_L_47 dL_act_132 (c_L_at _ 2 (by decide)) (by decide) rfl ⟨by omega, by omega⟩ ?_
        refine x_topi (nI kk) ekk ?_
        refine x_iload_n (pc := 135) C dL_act_135 rfl ?_
        refine x_iconst (pc := 136) C (4) dL_act_136 (by decide) ?_
        refine x_ishr (pc := 137) C dL_act_137 ?_
        refine x_bipush (pc := 138) C (6) dL_act_138 (by decide) ?_
        refine x_gS2 (pc := 140) C [] (fun _ h => nomatch h) s_L_47 dL_act_140 (c_L_at _ 6 (by decide)) (by decide) rfl ⟨by omega, by omega⟩ ?_
        refine x_topi (nI gN) egN ?_
        refine x_iload (pc := 143) C dL_act_143 rfl ?_
        refine x_iload (pc := 145) C dL_act_145 rfl ?_
        refine x_iload (pc := 147) C dL_act_147 rfl ?_
        refine x_iload (pc := 149) C dL_act_149 rfl ?_
        refine x_iload (pc := 151) C dL_act_151 rfl ?_
        refine x_icmp_ge (pc := 153) (tgt := 161) C dL_act_153 (by decide) (fun h153 => ?_) (fun h153 => ?_)
        · refine x_iload (pc := 161) C dL_act_161 rfl ?_
          exact J163 ln (by have := (nI_leI (by omega) (by omega)).mp h153; omega) (Nat.le_refl _)
        · refine x_iload (pc := 156) C dL_act_156 rfl ?_
          refine x_goto (pc := 158) (tgt := 163) C dL_act_158 (by decide) ?_
          exact J163 sp (by omega) (by have := mt (nI_leI (a := ln) (b := sp) (by omega) (by omega)).mpr h153; omega)
      refine x_iconst (pc := 89) C (5) dL_act_89 (by decide) ?_
      refine x_iload_n (pc := 90) C dL_act_90 rfl ?_
      refine x_bipush (pc := 91) C (10) dL_act_91 (by decide) ?_
      refine x_ishr (pc := 93) C dL_act_93 ?_
      refine x_iload_n (pc := 94) C dL_act_94 rfl ?_
      refine x_bipush (pc := 95) C (7) dL_act_95 (by decide) ?_
      refine x_ishr (pc := 97) C dL_act_97 ?_
      refine x_iconst (pc := 98) C (3) dL_act_98 (by decide) ?_
      refine x_gS2 (pc := 99) C [] (fun _ h => nomatch h) s_L_47 dL_act_99 (c_L_at _ 3 (by decide)) (by decide) rfl ⟨by omega, by omega⟩ ?_
      refine x_if_ne (pc := 102) (tgt := 111) C dL_act_102 (by decide) (fun h102 => ?_) (fun h102 => ?_)
      · refine x_bipush (pc := 111) C (60) dL_act_111 (by decide) ?_
        refine x_gS2 (pc := 113) C [] (fun _ h => nomatch h) s_L_47 dL_act_113 (c_L_at _ 60 (by decide)) (by decide) rfl ⟨by omega, by omega⟩ ?_
        obtain ⟨kv, hkv, ekv⟩ := at_n (y >>> ((10 : Int32) &&& 31)) (n := 60) (by decide) (by decide)
        refine x_topi (nI kv) ekv ?_
        refine x_iadd (pc := 116) C dL_act_116 ?_
        refine x_topi (nI (5 + kv)) (nI_add (5) (kv)) ?_
        refine y_istore (pc := 117) C dL_act_117 (by decide) rfl ?_
        exact J119 (5 + kv) (by omega) (by omega)
      · refine x_sipush (pc := 105) C (236) dL_act_105 (by decide) ?_
        refine x_goto (pc := 108) (tgt := 113) C dL_act_108 (by decide) ?_
        refine x_gS2 (pc := 113) C [] (fun _ h => nomatch h) s_L_47 dL_act_113 (c_L_at _ 236 (by decide)) (by decide) rfl ⟨by omega, by omega⟩ ?_
        obtain ⟨kv, hkv, ekv⟩ := at_n (y >>> ((10 : Int32) &&& 31)) (n := 236) (by decide) (by decide)
        refine x_topi (nI kv) ekv ?_
        refine x_iadd (pc := 116) C dL_act_116 ?_
        refine x_topi (nI (5 + kv)) (nI_add (5) (kv)) ?_
        refine y_istore (pc := 117) C dL_act_117 (by decide) rfl ?_
        exact J119 (5 + kv) (by omega) (by omega)
    have J176 : ¬ nI n = 0 → Wx E 176 [some (aR 0), some (aI ac), some (aI x), some (aI y), some (aI (nI T)), some (aR 210), some (aR 211), some (aR 212), some (aR 213), some (aI (nI dd)), some (aI st), none, none, none, none, none, none, none, none] [] V L N I 0 0 := by
      intro hn0
      refine x_iload_n (pc := 176) C dL_act_176 rfl ?_
      refine x_bipush (pc := 177) C (6) dL_act_177 (by decide) ?_
      refine x_ishr (pc := 179) C dL_act_179 ?_
      refine x_aload (pc := 180) C dL_act_180 rfl ?_
      refine x_iconst (pc := 182) C (1) dL_act_182 (by decide) ?_
      refine x_topi (nI 1) (by decide) ?_
      refine x_iald (pc := 183) (o := 212) C dL_act_183 (hI 212 rfl) ⟨rfl, rfl⟩ (show _ < 3 by decide) (by decide) ?_
      refine x_topi (nI n) ht.d1 ?_
      refine x_gS2 (pc := 184) C [] (fun _ h => nomatch h) s_L_47 dL_act_184 (c_L_at _ (nI n) (fun z => hn0 z)) (by decide) rfl ⟨by omega, by omega⟩ ?_
      obtain ⟨q, hq, eq⟩ := at_n (x >>> ((6 : Int32) &&& 31)) (n := n) (Nat.pos_of_ne_zero fun z => hn0 (by rw [z]; rfl)) (by omega)
      refine x_topi (nI q) eq ?_
      refine y_istore (pc := 187) C dL_act_187 (by decide) rfl ?_
      refine x_iconst (pc := 189) C (2) dL_act_189 (by decide) ?_
      refine x_aload (pc := 190) C dL_act_190 rfl ?_
      refine x_bipush (pc := 192) C (9) dL_act_192 (by decide) ?_
      refine x_iload (pc := 194) C dL_act_194 rfl ?_
      refine x_imul (pc := 196) C dL_act_196 ?_
      refine x_topi (nI (9 * q)) (pk_mul (9) (q)) ?_
      refine x_iconst (pc := 197) C (1) dL_act_197 (by decide) ?_
      refine x_iadd (pc := 198) C dL_act_198 ?_
      refine x_topi (nI (9 * q + 1)) (nI_add (9 * q) (1)) ?_
      refine x_iald (pc := 199) (o := 213) C dL_act_199 (hI 213 rfl) ⟨rfl, rfl⟩ (show _ < 63 by omega) (by decide) ?_
      refine x_topi (RF V 1 q) (ht.f (k := 1) (s := q) (by omega) (by decide)) ?_
      refine x_iload (pc := 200) C dL_act_200 rfl ?_
      refine x_iload (pc := 202) C dL_act_202 rfl ?_
      refine x_aload (pc := 204) C dL_act_204 rfl ?_
      refine x_bipush (pc := 206) C (9) dL_act_206 (by decide) ?_
      refine x_iload (pc := 208) C dL_act_208 rfl ?_
      refine x_imul (pc := 210) C dL_act_210 ?_
      refine x_topi (nI (9 * q)) (pk_mul (9) (q)) ?_
      refine x_iconst (pc := 211) C (4) dL_act_211 (by decide) ?_
      refine x_iadd (pc := 212) C dL_act_212 ?_
      refine x_topi (nI (9 * q + 4)) (nI_add (9 * q) (4)) ?_
      refine x_iald (pc := 213) (o := 213) C dL_act_213 (hI 213 rfl) ⟨rfl, rfl⟩ (show _ < 63 by omega) (by decide) ?_
      refine x_topi (RF V 4 q) (ht.f (k := 4) (s := q) (by omega) (by decide)) ?_
      refine x_iconst (pc := 214) C (0) dL_act_214 (by decide) ?_
      refine x_aload (pc := 215) C dL_act_215 rfl ?_
      refine x_bipush (pc := 217) C (9) dL_act_217 (by decide) ?_
      refine x_iload (pc := 219) C dL_act_219 rfl ?_
      refine x_imul (pc := 221) C dL_act_221 ?_
      refine x_topi (nI (9 * q)) (pk_mul (9) (q)) ?_
      refine x_bipush (pc := 222) C (8) dL_act_222 (by decide) ?_
      refine x_iadd (pc := 224) C dL_act_224 ?_
      refine x_topi (nI (9 * q + 8)) (nI_add (9 * q) (8)) ?_
      refine x_iald (pc := 225) (o := 213) C dL_act_225 (hI 213 rfl) ⟨rfl, rfl⟩ (show _ < 63 by omega) (by decide) ?_
      refine x_topi (GF V 8 q) (rfl) ?_
      refine x_iload (pc := 226) C dL_act_226 rfl ?_
      refine x_aload (pc := 228) C dL_act_228 rfl ?_
      refine x_aload (pc := 230) C dL_act_230 rfl ?_
      refine x_gS10 (pc := 232) C [] (fun _ h => nomatch h) s_L_75 dL_act_232 (c_L_lay hI ht.d1 hn6 _ _ _ _ _ _ _ _) (by decide) rfl ⟨by omega, by omega⟩ ?_
      refine x_fgt 11 ?_
      obtain ⟨gq, hgq, egq⟩ : ∃ g, g < 6 ∧ RF V 1 q = nI g := rw_g h.2.1 hq
      have hsh := hsb q hq
      rw [egq]
      exact J235 2 (RF V 4 q) 0 (GF V 8 q) st gq dd q hn5 hgq (rb_ok2 hgq hdd hst hsh.2.2.2.2.1) (Or.inr ⟨rfl, hq, rfl, egq, rfl, rfl⟩)
    refine x_iload_n (pc := 77) C dL_act_77 rfl ?_
    refine x_iconst (pc := 78) C (5) dL_act_78 (by decide) ?_
    refine x_icmp_lt (pc := 79) (tgt := 89) C dL_act_79 (by decide) (fun h79 => ?_) (fun h79 => ?_)
    · exact J89
    · refine x_aload (pc := 82) C dL_act_82 rfl ?_
      refine x_iconst (pc := 84) C (1) dL_act_84 (by decide) ?_
      refine x_topi (nI 1) (by decide) ?_
      refine x_iald (pc := 85) (o := 212) C dL_act_85 (hI 212 rfl) ⟨rfl, rfl⟩ (show _ < 3 by decide) (by decide) ?_
      refine x_topi (nI n) ht.d1 ?_
      refine x_if_ne (pc := 86) (tgt := 176) C dL_act_86 (by decide) (fun h86 => ?_) (fun h86 => ?_)
      · exact J176 h86
      · exact J89
  have J13 : Wx E 13 [some (aR 0), some (aI ac), some (aI x), some (aI y), some (aI (nI T)), some (aR 210), some (aR 211), some (aR 212), some (aR 213), none, none, none, none, none, none, none, none, none, none] [] V L N I 0 0 := by
    have g0 := hgb.1
    refine x_aload (pc := 13) C dL_act_13 rfl ?_
    refine x_iconst (pc := 15) C (1) dL_act_15 (by decide) ?_
    refine x_topi (nI 1) (by decide) ?_
    refine x_iald (pc := 16) (o := 212) C dL_act_16 (hI 212 rfl) ⟨rfl, rfl⟩ (show _ < 3 by decide) (by decide) ?_
    refine x_topi (nI n) ht.d1 ?_
    refine x_bipush (pc := 17) C (6) dL_act_17 (by decide) ?_
    refine x_icmp_ne (pc := 19) (tgt := 24) C dL_act_19 (by decide) (fun h19 => ?_) (fun h19 => ?_)
    · have hn5 : n < 6 := Nat.lt_of_le_of_ne hn6 fun z => h19 (by rw [z]; rfl)
      refine x_iload_n (pc := 24) C dL_act_24 rfl ?_
      refine x_iconst (pc := 25) C (2) dL_act_25 (by decide) ?_
      refine x_ishr (pc := 26) C dL_act_26 ?_
      refine x_bipush (pc := 27) C (7) dL_act_27 (by decide) ?_
      refine x_gS2 (pc := 29) C [] (fun _ h => nomatch h) s_L_47 dL_act_29 (c_L_at _ 7 (by decide)) (by decide) rfl ⟨by omega, by omega⟩ ?_
      obtain ⟨dd, hdd, edd⟩ := at_n (x >>> ((2 : Int32) &&& 31)) (n := 7) (by decide) (by decide)
      refine x_topi (nI dd) edd ?_
      refine y_istore (pc := 32) C dL_act_32 (by decide) rfl ?_
      have J58 : ∀ Nv : Nat, 0 < Nv → Nv ≤ 900 → Wx E 58 [some (aR 0), some (aI ac), some (aI x), some (aI y), some (aI (nI T)), some (aR 210), some (aR 211), some (aR 212), some (aR 213), some (aI (nI dd)), none, none, none, none, none, none, none, none, none] [aI (nI Nv), aI y, aI (V 201 0)] V L N I 0 0 := by
        intro Nv hN0 hN9
        refine x_gS2 (pc := 58) C [] (fun _ h => nomatch h) s_L_47 dL_act_58 (c_L_at _ (nI Nv) (nI_ne0 (by omega) (by omega))) (by decide) rfl ⟨by omega, by omega⟩ ?_
        obtain ⟨kv, hkv, ekv⟩ := at_n y (n := Nv) (by omega) (by omega)
        refine x_topi (nI kv) ekv ?_
        refine x_iadd (pc := 61) C dL_act_61 ?_
        have tst : (V 201 0 + nI kv).toInt = (V 201 0).toInt + kv := by rw [t_add (by rw [t_nat (by omega)]; omega) (by rw [t_nat (by omega)]; omega), t_nat (by omega)]
        refine y_istore (pc := 62) C dL_act_62 (by decide) rfl ?_
        refine x_iload (pc := 64) C dL_act_64 rfl ?_
        refine x_sipush (pc := 66) C (1439) dL_act_66 (by decide) ?_
        refine x_icmp_le (pc := 69) (tgt := 77) C dL_act_69 (by decide) (fun h69 => ?_) (fun h69 => ?_)
        · have c1439 : (1439 : Int32).toInt = 1439 := rfl
          exact J77 dd _ hdd hn5 ⟨by omega, by have := t_le.mp h69; omega⟩
        · refine x_sipush (pc := 72) C (1439) dL_act_72 (by decide) ?_
          refine y_istore (pc := 75) C dL_act_75 (by decide) rfl ?_
          exact J77 dd _ hdd hn5 (by decide)
      refine x_aload (pc := 34) C dL_act_34 rfl ?_
      refine x_iconst (pc := 36) C (0) dL_act_36 (by decide) ?_
      refine x_topi (nI 0) (by decide) ?_
      refine x_iald (pc := 37) (o := 210) C dL_act_37 (hI 210 rfl) ⟨rfl, rfl⟩ (show _ < 8 by decide) (by decide) ?_
      refine x_topi (V 201 0) (ht.se _ (by omega)) ?_
      refine x_iload_n (pc := 38) C dL_act_38 rfl ?_
      refine x_iload_n (pc := 39) C dL_act_39 rfl ?_
      refine x_iconst (pc := 40) C (5) dL_act_40 (by decide) ?_
      refine x_ishr (pc := 41) C dL_act_41 ?_
      refine x_iconst (pc := 42) C (3) dL_act_42 (by decide) ?_
      refine x_gS2 (pc := 43) C [] (fun _ h => nomatch h) s_L_47 dL_act_43 (c_L_at _ 3 (by decide)) (by decide) rfl ⟨by omega, by omega⟩ ?_
      refine x_if_ne (pc := 46) (tgt := 55) C dL_act_46 (by decide) (fun h46 => ?_) (fun h46 => ?_)
      · refine x_sipush (pc := 55) C (240) dL_act_55 (by decide) ?_
        exact J58 240 (by decide) (by decide)
      · refine x_sipush (pc := 49) C (900) dL_act_49 (by decide) ?_
        refine x_goto (pc := 52) (tgt := 58) C dL_act_52 (by decide) ?_
        exact J58 900 (by decide) (by decide)
    · refine x_iconst (pc := 22) C (1) dL_act_22 (by decide) ?_
      exact x_zret (pc := 23) C hQ dL_act_23 (by decide) (act_same h ht hw su_r hT) (Nat.le_of_ble_eq_true rfl) (Nat.le_of_ble_eq_true rfl)
  refine x_iload_n (pc := 0) C dL_act_0 rfl ?_
  refine x_bipush (pc := 1) C (8) dL_act_1 (by decide) ?_
  refine x_icmp_lt (pc := 3) (tgt := 13) C dL_act_3 (by decide) (fun h3 => ?_) (fun h3 => ?_)
  · exact J13
  · refine x_aload (pc := 6) C dL_act_6 rfl ?_
    refine x_iconst (pc := 8) C (1) dL_act_8 (by decide) ?_
    refine x_topi (nI 1) (by decide) ?_
    refine x_iald (pc := 9) (o := 212) C dL_act_9 (hI 212 rfl) ⟨rfl, rfl⟩ (show _ < 3 by decide) (by decide) ?_
    refine x_topi (nI n) ht.d1 ?_
    refine x_if_ne (pc := 10) (tgt := 446) C dL_act_10 (by decide) (fun h10 => ?_) (fun h10 => ?_)
    · exact J446 h10
    · exact J13
