def gx_by : List Int32 := [99, 49, 44, 97, 101, 105, 111, 117, 59, 99, 50, 44, 98, 99, 100, 102, 103, 59, 99, 51, 44, 120, 121, 122, 59, 99, 53, 44, 113, 59, 114, 48, 44, 38, 43, 50, 63, 49, 59, 114, 49, 44, 38, 49, 42, 124, 49, 50, 59, 114, 50, 44, 38, 51, 38, 46, 51, 59, 114, 48, 44, 43, 51, 59, 115, 98, 97, 113, 98, 120, 121, 122, 97, 113, 113, 101, 98, 99, 120, 113, 122, 122, 59]
def gx_ch (k : Nat) : Int32 := gx_by.getD k 0
def lp_X9_init_127 (E155 : Int32 → (Nat → Int32) → Prop) : Nat → Int32 → Int32 → (Nat → Int32) → Prop
  | 0, _, _, _ => False
  | n + 1, v1, x_text_length, x_text_signs =>
    ((nI 83) ≤ v1 →
      E155 x_text_length x_text_signs) ∧
    (¬ (nI 83) ≤ v1 →
      vp_in v1 83 ∧
      wp_X7_add x_text_length x_text_signs (gx_ch v1.toNatClampNeg) (fun x_text_length_52 x_text_signs_53 =>
      ∀ v1_54 : Int32, v1_54 = v1 + (nI 1) →
      lp_X9_init_127 E155 n v1_54 x_text_length_52 x_text_signs_53))
def wp_X9_init (K : Int32 → Int32 → Int32 → Int32 → (Nat → Int32) → Int32 → Int32 → (Nat → Int32) → (Nat → Int32) → (Nat → Int32) → (Nat → Int32) → (Nat → Int32) → Int32 → (Nat → Int32) → (Nat → Int32) → (Nat → Int32) → Int32 → (Nat → Int32) → (Nat → Int32) → (Nat → Int32) → Int32 → (Nat → Int32) → (Nat → Int32) → (Nat → Int32) → Int32 → (Nat → Int32) → (Nat → Int32) → (Nat → Int32) → Int32 → (Nat → Int32) → (Nat → Int32) → (Nat → Int32) → Int32 → Int32 → (Nat → Int32) → (Nat → Int32) → Int32 → Int32 → (Nat → Int32) → Int32 → Int32 → Int32 → Int32 → (Nat → Int32) → (Nat → Int32) → (Nat → Int32) → (Nat → Int32) → (Nat → Int32) → (Nat → Int32) → (Nat → Int32) → (Nat → Int32) → (Nat → Int32) → (Nat → Int32) → Int32 → (Nat → Int32) → (Nat → Int32) → (Nat → Int32) → Int32 → Int32 → (Nat → Int32) → Prop) : Prop :=
    ∀ E155_25 : Int32 → (Nat → Int32) → Prop,
    (∀ (x_text_length_23 : Int32) (x_text_signs_24 : Nat → Int32), 
      (wp_X9_layText 0 x_text_length_23 x_text_signs_24 0 0 ((fun _ => 0)) ((fun _ => 0)) ((fun _ => 0)) ((fun _ => 0)) ((fun _ => 0)) 0 ((fun _ => 0)) ((fun _ => 0)) ((fun _ => 0)) 0 ((fun _ => 0)) ((fun _ => 0)) ((fun _ => 0)) 0 0 0 ((fun _ => 0)) ((fun _ => 0)) 0 0 ((fun _ => 0)) 0 (fun x_keptNumber_26 x_rules_number_27 x_rules_placeNumber_28 x_rules_places_29 x_rules_firsts_30 x_rules_wholes_31 x_rules_taken_32 x_rules_behinds_33 x_rules_parts_height_34 x_rules_parts_firsts_35 x_rules_parts_lasts_36 x_rules_parts_lacking_37 x_now_length_38 x_now_classes_39 x_now_kinds_40 x_now_line_41 x_acts_number_42 x_steps_firsts_43 x_steps_loose_44 x_steps_onward_45 x_steps_takers_46 x_pieces_length_47 x_pieces_bounds_48 x_pieces_stands_49 x_ways_areFound_50 =>
      wp_X7_clear x_text_length_23 (fun x_text_length_51 =>
      K x_keptNumber_26 x_text_length_51 0 0 x_text_signs_24 x_rules_number_27 x_rules_placeNumber_28 x_rules_places_29 x_rules_firsts_30 x_rules_wholes_31 x_rules_taken_32 x_rules_behinds_33 x_rules_parts_height_34 x_rules_parts_firsts_35 x_rules_parts_lasts_36 x_rules_parts_lacking_37 x_now_length_38 x_now_classes_39 x_now_kinds_40 x_now_line_41 0 ((fun _ => 0)) ((fun _ => 0)) ((fun _ => 0)) 0 ((fun _ => 0)) ((fun _ => 0)) ((fun _ => 0)) x_acts_number_42 ((fun _ => 0)) ((fun _ => 0)) ((fun _ => 0)) x_steps_firsts_43 x_steps_loose_44 x_steps_onward_45 x_steps_takers_46 x_pieces_length_47 x_pieces_bounds_48 x_pieces_stands_49 0 0 0 x_ways_areFound_50 ((fun _ => 0)) ((fun _ => 0)) ((fun _ => 0)) ((fun _ => 0)) ((fun _ => 0)) ((fun _ => 0)) ((fun _ => 0)) ((fun _ => 0)) ((fun _ => 0)) ((fun _ => 0)) 0 ((fun _ => 0)) ((fun _ => 0)) ((fun _ => 0)) 0 0 ((fun _ => 0))))) →
     E155_25 x_text_length_23 x_text_signs_24) →
    ∃ n : Nat, lp_X9_init_127 E155_25 n (nI 0) 0 ((fun _ => 0))

def lp_X10_init_177 (E279 : (Nat → Int32) → Prop) : Nat → Int32 → (Nat → Int32) → Prop
  | 0, _, _ => False
  | n + 1, v1, x_newSlot =>
    ((nI 26) ≤ v1 →
      E279 x_newSlot) ∧
    (¬ (nI 26) ≤ v1 →
      ∀ J210_142 : Prop,
      (
        (vp_in v1 61 ∧
        ∀ x_newSlot_143 : Nat → Int32, x_newSlot_143 = upd x_newSlot v1.toNatClampNeg (nI 1) →
        ∀ v1_144 : Int32, v1_144 = v1 + (nI 1) →
        lp_X10_init_177 E279 n v1_144 x_newSlot_143) →
       J210_142) →
      (v1 = 0 →
          J210_142) ∧
        (¬ v1 = 0 →
          (v1 = (nI 4) →
            J210_142) ∧
          (¬ v1 = (nI 4) →
            (v1 = (nI 8) →
              J210_142) ∧
            (¬ v1 = (nI 8) →
              (v1 = (nI 14) →
                J210_142) ∧
              (¬ v1 = (nI 14) →
                (¬ v1 = (nI 20) →
                  ∀ J240_145 : Prop,
                  (
                    (vp_in v1 61 ∧
                    ∀ x_newSlot_146 : Nat → Int32, x_newSlot_146 = upd x_newSlot v1.toNatClampNeg (nI 2) →
                    ∀ v1_147 : Int32, v1_147 = v1 + (nI 1) →
                    lp_X10_init_177 E279 n v1_147 x_newSlot_146) →
                   J240_145) →
                  (v1 = (nI 1) →
                      J240_145) ∧
                    (¬ v1 = (nI 1) →
                      (v1 = (nI 2) →
                        J240_145) ∧
                      (¬ v1 = (nI 2) →
                        (v1 = (nI 3) →
                          J240_145) ∧
                        (¬ v1 = (nI 3) →
                          (v1 = (nI 5) →
                            J240_145) ∧
                          (¬ v1 = (nI 5) →
                            (¬ v1 = (nI 6) →
                              (v1 ≤ (nI 22) →
                                (¬ v1 = (nI 16) →
                                  vp_in v1 61 ∧
                                  ∀ x_newSlot_148 : Nat → Int32, x_newSlot_148 = upd x_newSlot v1.toNatClampNeg (nI 0) →
                                  ∀ v1_149 : Int32, v1_149 = v1 + (nI 1) →
                                  lp_X10_init_177 E279 n v1_149 x_newSlot_148) ∧
                                (v1 = (nI 16) →
                                  vp_in v1 61 ∧
                                  ∀ x_newSlot_150 : Nat → Int32, x_newSlot_150 = upd x_newSlot v1.toNatClampNeg (nI 5) →
                                  ∀ v1_151 : Int32, v1_151 = v1 + (nI 1) →
                                  lp_X10_init_177 E279 n v1_151 x_newSlot_150)) ∧
                              (¬ v1 ≤ (nI 22) →
                                vp_in v1 61 ∧
                                ∀ x_newSlot_152 : Nat → Int32, x_newSlot_152 = upd x_newSlot v1.toNatClampNeg (nI 3) →
                                ∀ v1_153 : Int32, v1_153 = v1 + (nI 1) →
                                lp_X10_init_177 E279 n v1_153 x_newSlot_152)) ∧
                            (v1 = (nI 6) →
                              J240_145)))))) ∧
                (v1 = (nI 20) →
                  J210_142))))))
def wp_X10_init (K : Int32 → Int32 → Int32 → Int32 → Int32 → Int32 → Int32 → Int32 → Int32 → Int32 → Int32 → Int32 → Int32 → (Nat → Int32) → (Nat → Int32) → (Nat → Int32) → (Nat → Int32) → (Nat → Int32) → (Nat → Int32) → (Nat → Int32) → (Nat → Int32) → (Nat → Int32) → (Nat → Int32) → (Nat → Int32) → (Nat → Int32) → (Nat → Int32) → (Nat → Int32) → (Nat → Int32) → (Nat → Int32) → (Nat → Int32) → (Nat → Int32) → (Nat → Int32) → (Nat → Int32) → Prop) : Prop :=
    wp_X10_begins 0 0 ((fun _ => 0)) (fun x_newRules_21 x_newPlaces_22 x_newSlot_23 =>
    ∀ E279_25 : (Nat → Int32) → Prop,
    (∀ (x_newSlot_24 : Nat → Int32), 
      (wp_X10_rowBegins 0 (fun x_parts_26 =>
      wp_X10_atom x_newPlaces_22 x_parts_26 ((fun _ => 0)) ((fun _ => 0)) ((fun _ => 0)) ((fun _ => 0)) ((fun _ => 0)) (nI 1) (nI 1) (fun x_parts_27 x_newTakes_28 x_newBehind_29 x_firsts_30 x_lasts_31 x_mays_32 =>
      wp_X10_maybe x_parts_27 x_mays_32 (fun x_mays_33 =>
      wp_X10_atom x_newPlaces_22 x_parts_27 x_newTakes_28 x_newBehind_29 x_firsts_30 x_lasts_31 x_mays_33 (nI 0) (nI 2) (fun x_parts_34 x_newTakes_35 x_newBehind_36 x_firsts_37 x_lasts_38 x_mays_39 =>
      wp_X10_again x_parts_34 x_newBehind_36 x_firsts_37 x_lasts_38 (fun x_newBehind_40 =>
      wp_X10_both x_parts_34 x_newBehind_40 x_firsts_37 x_lasts_38 x_mays_39 (fun x_parts_41 x_newBehind_42 x_firsts_43 x_lasts_44 x_mays_45 =>
      wp_X10_ends x_newRules_21 x_newPlaces_22 ((fun _ => 0)) x_newSlot_24 x_firsts_43 x_lasts_44 (nI 0) (nI 2) (fun x_newRules_46 x_newPlaces_47 x_newRule_48 x_newSlot_49 =>
      wp_X10_rowBegins x_parts_41 (fun x_parts_50 =>
      wp_X10_atom x_newPlaces_47 x_parts_50 x_newTakes_35 x_newBehind_42 x_firsts_43 x_lasts_44 x_mays_45 (nI 2) (nI 2) (fun x_parts_51 x_newTakes_52 x_newBehind_53 x_firsts_54 x_lasts_55 x_mays_56 =>
      wp_X10_atom x_newPlaces_47 x_parts_51 x_newTakes_52 x_newBehind_53 x_firsts_54 x_lasts_55 x_mays_56 (nI 1) (nI 1) (fun x_parts_57 x_newTakes_58 x_newBehind_59 x_firsts_60 x_lasts_61 x_mays_62 =>
      wp_X10_either x_parts_57 x_firsts_60 x_lasts_61 x_mays_62 (fun x_parts_63 x_firsts_64 x_lasts_65 x_mays_66 =>
      wp_X10_any x_parts_63 x_newBehind_59 x_firsts_64 x_lasts_65 x_mays_66 (fun x_newBehind_67 x_mays_68 =>
      wp_X10_atom x_newPlaces_47 x_parts_63 x_newTakes_58 x_newBehind_67 x_firsts_64 x_lasts_65 x_mays_68 (nI 0) (nI 1) (fun x_parts_69 x_newTakes_70 x_newBehind_71 x_firsts_72 x_lasts_73 x_mays_74 =>
      wp_X10_both x_parts_69 x_newBehind_71 x_firsts_72 x_lasts_73 x_mays_74 (fun x_parts_75 x_newBehind_76 x_firsts_77 x_lasts_78 x_mays_79 =>
      wp_X10_ends x_newRules_46 x_newPlaces_47 x_newRule_48 x_newSlot_49 x_firsts_77 x_lasts_78 (nI 1) (nI 3) (fun x_newRules_80 x_newPlaces_81 x_newRule_82 x_newSlot_83 =>
      wp_X10_rowBegins x_parts_75 (fun x_parts_84 =>
      wp_X10_atom x_newPlaces_81 x_parts_84 x_newTakes_70 x_newBehind_76 x_firsts_77 x_lasts_78 x_mays_79 (nI 2) (nI 3) (fun x_parts_85 x_newTakes_86 x_newBehind_87 x_firsts_88 x_lasts_89 x_mays_90 =>
      wp_X10_atom x_newPlaces_81 x_parts_85 x_newTakes_86 x_newBehind_87 x_firsts_88 x_lasts_89 x_mays_90 (nI 1) (nI 6) (fun x_parts_91 x_newTakes_92 x_newBehind_93 x_firsts_94 x_lasts_95 x_mays_96 =>
      wp_X10_both x_parts_91 x_newBehind_93 x_firsts_94 x_lasts_95 x_mays_96 (fun x_parts_97 x_newBehind_98 x_firsts_99 x_lasts_100 x_mays_101 =>
      wp_X10_atom x_newPlaces_81 x_parts_97 x_newTakes_92 x_newBehind_98 x_firsts_99 x_lasts_100 x_mays_101 (nI 0) (nI 3) (fun x_parts_102 x_newTakes_103 x_newBehind_104 x_firsts_105 x_lasts_106 x_mays_107 =>
      wp_X10_both x_parts_102 x_newBehind_104 x_firsts_105 x_lasts_106 x_mays_107 (fun x_parts_108 x_newBehind_109 x_firsts_110 x_lasts_111 x_mays_112 =>
      wp_X10_ends x_newRules_80 x_newPlaces_81 x_newRule_82 x_newSlot_83 x_firsts_110 x_lasts_111 (nI 2) (nI 3) (fun x_newRules_113 x_newPlaces_114 x_newRule_115 x_newSlot_116 =>
      wp_X10_rowBegins x_parts_108 (fun x_parts_117 =>
      wp_X10_atom x_newPlaces_114 x_parts_117 x_newTakes_103 x_newBehind_109 x_firsts_110 x_lasts_111 x_mays_112 (nI 0) (nI 3) (fun x_parts_118 x_newTakes_119 x_newBehind_120 x_firsts_121 x_lasts_122 x_mays_123 =>
      wp_X10_again x_parts_118 x_newBehind_120 x_firsts_121 x_lasts_122 (fun x_newBehind_124 =>
      wp_X10_ends x_newRules_113 x_newPlaces_114 x_newRule_115 x_newSlot_116 x_firsts_121 x_lasts_122 (nI 0) (nI 1) (fun x_newRules_125 x_newPlaces_126 x_newRule_127 x_newSlot_128 =>
      wp_X10_letters x_newSlot_128 (nI 1) (nI 0) (nI 16) (nI 1) (fun x_newSlot_129 =>
      wp_X10_letters x_newSlot_129 (nI 23) (nI 24) (nI 25) (nI 0) (fun x_newSlot_130 =>
      wp_X10_letters x_newSlot_130 (nI 16) (nI 16) (nI 4) (nI 1) (fun x_newSlot_131 =>
      wp_X10_letters x_newSlot_131 (nI 2) (nI 23) (nI 16) (nI 25) (fun x_newSlot_132 =>
      wp_X10_letters x_newSlot_132 (nI 25) (-1) (-1) (-1) (fun x_newSlot_133 =>
      wp_X10_settles 0 0 x_newRules_125 x_newPlaces_126 0 0 ((fun _ => 0)) ((fun _ => 0)) ((fun _ => 0)) x_newRule_127 x_newTakes_119 x_newBehind_124 x_newSlot_133 ((fun _ => 0)) (fun x_rules_134 x_places_135 x_acts_136 x_kept_137 x_rule_138 x_takes_139 x_behind_140 x_slot_141 =>
      K x_rules_134 x_places_135 x_newRules_125 x_newPlaces_126 x_acts_136 x_kept_137 0 0 0 0 x_parts_118 0 0 x_rule_138 x_takes_139 x_behind_140 x_newRule_127 x_newTakes_119 x_newBehind_124 x_newSlot_133 x_slot_141 ((fun _ => 0)) x_firsts_121 x_lasts_122 x_mays_123 ((fun _ => 0)) ((fun _ => 0)) ((fun _ => 0)) ((fun _ => 0)) ((fun _ => 0)) ((fun _ => 0)) ((fun _ => 0)) ((fun _ => 0))))))))))))))))))))))))))))))))))) →
     E279_25 x_newSlot_24) →
    ∃ n : Nat, lp_X10_init_177 E279_25 n (nI 0) x_newSlot_23)
