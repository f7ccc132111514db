def gx_by : List Int32 := [99, 49, 44, 97, 101, 105, 111, 117, 59, 99, 50, 44, 98, 99, 100, 102, 103, 59, 99, 51, 44, 120, 121, 122, 59, 99, 53, 44, 113, 59, 114, 48, 44, 38, 43, 50, 63, 49, 59, 114, 49, 44, 38, 49, 42, 124, 49, 50, 59, 114, 50, 44, 38, 51, 38, 46, 51, 59, 114, 48, 44, 43, 51, 59, 115, 98, 97, 113, 98, 120, 121, 122, 97, 113, 113, 101, 98, 99, 120, 113, 122, 122, 59]
def gx_ch (k : Nat) : Int32 := gx_by.getD k 0
def lp_X9_init_127 (E155 : Int32 → (Nat → Int32) → Prop) : Nat → Int32 → Int32 → (Nat → Int32) → Prop
  | 0, _, _, _ => False
  | n + 1, v1, x_text_length, x_text_signs =>
    ((nI 83) ≤ v1 →
      E155 x_text_length x_text_signs) ∧
    (¬ (nI 83) ≤ v1 →
      vp_in v1 83 ∧
      wp_X7_add x_text_length x_text_signs (gx_ch v1.toNatClampNeg) (fun x_text_length_52 x_text_signs_53 =>
      ∀ v1_54 : Int32, v1_54 = v1 + (nI 1) →
      lp_X9_init_127 E155 n v1_54 x_text_length_52 x_text_signs_53))
def wp_X9_init (K : Int32 → Int32 → Int32 → Int32 → (Nat → Int32) → Int32 → Int32 → (Nat → Int32) → (Nat → Int32) → (Nat → Int32) → (Nat → Int32) → (Nat → Int32) → Int32 → (Nat → Int32) → (Nat → Int32) → (Nat → Int32) → Int32 → (Nat → Int32) → (Nat → Int32) → (Nat → Int32) → Int32 → (Nat → Int32) → (Nat → Int32) → (Nat → Int32) → Int32 → (Nat → Int32) → (Nat → Int32) → (Nat → Int32) → Int32 → (Nat → Int32) → (Nat → Int32) → (Nat → Int32) → Int32 → Int32 → (Nat → Int32) → (Nat → Int32) → Int32 → Int32 → (Nat → Int32) → Int32 → Int32 → Int32 → Int32 → (Nat → Int32) → (Nat → Int32) → (Nat → Int32) → (Nat → Int32) → (Nat → Int32) → (Nat → Int32) → (Nat → Int32) → (Nat → Int32) → (Nat → Int32) → (Nat → Int32) → Int32 → (Nat → Int32) → (Nat → Int32) → (Nat → Int32) → Int32 → Int32 → (Nat → Int32) → Prop) : Prop :=
    ∀ E155_25 : Int32 → (Nat → Int32) → Prop,
    (∀ (x_text_length_23 : Int32) (x_text_signs_24 : Nat → Int32), 
      (wp_X9_layText 0 x_text_length_23 x_text_signs_24 0 0 ((fun _ => 0)) ((fun _ => 0)) ((fun _ => 0)) ((fun _ => 0)) ((fun _ => 0)) 0 ((fun _ => 0)) ((fun _ => 0)) ((fun _ => 0)) 0 ((fun _ => 0)) ((fun _ => 0)) ((fun _ => 0)) 0 0 0 ((fun _ => 0)) ((fun _ => 0)) 0 0 ((fun _ => 0)) 0 (fun x_keptNumber_26 x_rules_number_27 x_rules_placeNumber_28 x_rules_places_29 x_rules_firsts_30 x_rules_wholes_31 x_rules_taken_32 x_rules_behinds_33 x_rules_parts_height_34 x_rules_parts_firsts_35 x_rules_parts_lasts_36 x_rules_parts_lacking_37 x_now_length_38 x_now_classes_39 x_now_kinds_40 x_now_line_41 x_acts_number_42 x_steps_firsts_43 x_steps_loose_44 x_steps_onward_45 x_steps_takers_46 x_pieces_length_47 x_pieces_bounds_48 x_pieces_stands_49 x_ways_areFound_50 =>
      wp_X7_clear x_text_length_23 (fun x_text_length_51 =>
      K x_keptNumber_26 x_text_length_51 0 0 x_text_signs_24 x_rules_number_27 x_rules_placeNumber_28 x_rules_places_29 x_rules_firsts_30 x_rules_wholes_31 x_rules_taken_32 x_rules_behinds_33 x_rules_parts_height_34 x_rules_parts_firsts_35 x_rules_parts_lasts_36 x_rules_parts_lacking_37 x_now_length_38 x_now_classes_39 x_now_kinds_40 x_now_line_41 0 ((fun _ => 0)) ((fun _ => 0)) ((fun _ => 0)) 0 ((fun _ => 0)) ((fun _ => 0)) ((fun _ => 0)) x_acts_number_42 ((fun _ => 0)) ((fun _ => 0)) ((fun _ => 0)) x_steps_firsts_43 x_steps_loose_44 x_steps_onward_45 x_steps_takers_46 x_pieces_length_47 x_pieces_bounds_48 x_pieces_stands_49 0 0 0 x_ways_areFound_50 ((fun _ => 0)) ((fun _ => 0)) ((fun _ => 0)) ((fun _ => 0)) ((fun _ => 0)) ((fun _ => 0)) ((fun _ => 0)) ((fun _ => 0)) ((fun _ => 0)) ((fun _ => 0)) 0 ((fun _ => 0)) ((fun _ => 0)) ((fun _ => 0)) 0 0 ((fun _ => 0))))) →
     E155_25 x_text_length_23 x_text_signs_24) →
    ∃ n : Nat, lp_X9_init_127 E155_25 n (nI 0) 0 ((fun _ => 0))
