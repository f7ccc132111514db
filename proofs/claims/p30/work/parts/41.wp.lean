def wp_X7_length (x_length : Int32) (K : Int32 → Prop) : Prop :=
    K x_length

def wp_X7_add (x_length : Int32) (x_signs : Nat → Int32) (p1 : Int32) (K : Int32 → (Nat → Int32) → Prop) : Prop :=
    ((nI 200) ≤ x_length →
      K x_length x_signs) ∧
    (¬ (nI 200) ≤ x_length →
      vp_in x_length 200 ∧
      ∀ x_signs_1 : Nat → Int32, x_signs_1 = upd x_signs x_length.toNatClampNeg p1 →
      ∀ x_length_2 : Int32, x_length_2 = x_length + (nI 1) →
      K x_length_2 x_signs_1)

def wp_X9_write (x_text_length : Int32) (x_text_signs : Nat → Int32) (p1 : Int32) (K : Int32 → Int32 → (Nat → Int32) → Prop) : Prop :=
    (p1 < (nI 32) →
      K (-1) x_text_length x_text_signs) ∧
    (¬ p1 < (nI 32) →
      (p1 ≤ (nI 126) →
        wp_X7_length x_text_length (fun r_1 =>
        (r_1 < (nI 200) →
          wp_X7_add x_text_length x_text_signs p1 (fun x_text_length_2 x_text_signs_3 =>
          wp_X7_length x_text_length_2 (fun r_4 =>
          K r_4 x_text_length_2 x_text_signs_3))) ∧
        (¬ r_1 < (nI 200) →
          K (-3) x_text_length x_text_signs))) ∧
      (¬ p1 ≤ (nI 126) →
        K (-1) x_text_length x_text_signs))

def wp_X7_clear (x_length : Int32) (K : Int32 → Prop) : Prop :=
    K (nI 0)

def wp_X9_wipe (x_text_length : Int32) (K : Int32 → Int32 → Prop) : Prop :=
    wp_X7_length x_text_length (fun r_1 =>
    wp_X7_clear x_text_length (fun x_text_length_2 =>
    K r_1 x_text_length_2))

def wp_X7_signAt (x_length : Int32) (x_signs : Nat → Int32) (p1 : Int32) (K : Int32 → Prop) : Prop :=
    (p1 < 0 →
      K (nI 0)) ∧
    (¬ p1 < 0 →
      (x_length ≤ p1 →
        K (nI 0)) ∧
      (¬ x_length ≤ p1 →
        vp_in p1 200 ∧
        K (x_signs p1.toNatClampNeg)))

def lp_X7_endOfItem_2 (x_length : Int32) (x_signs : Nat → Int32) (E20 : Int32 → Prop) (E28 : Prop) : Nat → Int32 → Prop
  | 0, _ => False
  | n + 1, v2 =>
    (x_length ≤ v2 →
      E28) ∧
    (¬ x_length ≤ v2 →
      wp_X7_signAt x_length x_signs v2 (fun r_4 =>
      (¬ r_4 = (nI 59) →
        ∀ v2_5 : Int32, v2_5 = v2 + (nI 1) →
        lp_X7_endOfItem_2 x_length x_signs E20 E28 n v2_5) ∧
      (r_4 = (nI 59) →
        E20 v2)))
def wp_X7_endOfItem (x_length : Int32) (x_signs : Nat → Int32) (p1 : Int32) (K : Int32 → Prop) : Prop :=
    ∀ E20_2 : Int32 → Prop,
    (∀ (v2_1 : Int32), 
      (K v2_1) →
     E20_2 v2_1) →
    ∀ E28_3 : Prop,
      (
        (K (-1)) →
       E28_3) →
      ∃ n : Nat, lp_X7_endOfItem_2 x_length x_signs E20_2 E28_3 n p1

def wp_X9_isLetter (p0 : Int32) (K : Int32 → Prop) : Prop :=
    (p0 < 0 →
      K (nI 0)) ∧
    (¬ p0 < 0 →
      ((nI 26) ≤ p0 →
        K (nI 0)) ∧
      (¬ (nI 26) ≤ p0 →
        K (nI 1)))

def lp_X7_areLetters_3 (x_length : Int32) (x_signs : Nat → Int32) (q2 : Int32) (E24 : Prop) (E32 : Prop) : Nat → Int32 → Prop
  | 0, _ => False
  | n + 1, v5 =>
    (q2 ≤ v5 →
      E32) ∧
    (¬ q2 ≤ v5 →
      wp_X7_signAt x_length x_signs v5 (fun r_3 =>
      wp_X9_isLetter (r_3 - (nI 97)) (fun r_4 =>
      (¬ r_4 = 0 →
        ∀ v5_5 : Int32, v5_5 = v5 + (nI 1) →
        lp_X7_areLetters_3 x_length x_signs q2 E24 E32 n v5_5) ∧
      (r_4 = 0 →
        E24))))
def wp_X7_areLetters (x_length : Int32) (x_signs : Nat → Int32) (p1 : Int32) (p2 : Int32) (p3 : Int32) (p4 : Int32) (K : Int32 → Prop) : Prop :=
    ∀ E24_1 : Prop,
    (
      (K (nI 0)) →
     E24_1) →
    ∀ E32_2 : Prop,
      (
        (((p2 - p1) < p3 →
          K (nI 0)) ∧
        (¬ (p2 - p1) < p3 →
          (p4 < (p2 - p1) →
            K (nI 0)) ∧
          (¬ p4 < (p2 - p1) →
            K (nI 1)))) →
       E32_2) →
      ∃ n : Nat, lp_X7_areLetters_3 x_length x_signs p2 E24_1 E32_2 n p1

def wp_X7_hasFigure (x_length : Int32) (x_signs : Nat → Int32) (p1 : Int32) (p2 : Int32) (p3 : Int32) (K : Int32 → Prop) : Prop :=
    wp_X7_signAt x_length x_signs (p1 + (nI 1)) (fun r_1 =>
    ∀ v4_2 : Int32, v4_2 = r_1 - (nI 48) →
    (p2 ≤ (p1 + (nI 2)) →
      K (nI 0)) ∧
    (¬ p2 ≤ (p1 + (nI 2)) →
      (v4_2 < 0 →
        K (nI 0)) ∧
      (¬ v4_2 < 0 →
        (p3 ≤ v4_2 →
          K (nI 0)) ∧
        (¬ p3 ≤ v4_2 →
          wp_X7_signAt x_length x_signs (p1 + (nI 2)) (fun r_3 =>
          (¬ r_3 = (nI 44) →
            K (nI 0)) ∧
          (r_3 = (nI 44) →
            K (nI 1)))))))

def wp_X9_isClass (p0 : Int32) (K : Int32 → Prop) : Prop :=
    (p0 < 0 →
      K (nI 0)) ∧
    (¬ p0 < 0 →
      ((nI 6) ≤ p0 →
        K (nI 0)) ∧
      (¬ (nI 6) ≤ p0 →
        K (nI 1)))

def wp_X7_partsOf (p0 : Int32) (K : Int32 → Prop) : Prop :=
    (p0 = (nI 38) →
      K (nI 2)) ∧
    (¬ p0 = (nI 38) →
      (p0 = (nI 42) →
        K (nI 1)) ∧
      (¬ p0 = (nI 42) →
        (p0 = (nI 43) →
          K (nI 1)) ∧
        (¬ p0 = (nI 43) →
          (p0 = (nI 46) →
            K (nI 0)) ∧
          (¬ p0 = (nI 46) →
            (p0 = (nI 63) →
              K (nI 1)) ∧
            (¬ p0 = (nI 63) →
              (p0 = (nI 124) →
                K (nI 2)) ∧
              (¬ p0 = (nI 124) →
                wp_X9_isClass (p0 - (nI 48)) (fun r_1 =>
                (r_1 = 0 →
                  K (-1)) ∧
                (¬ r_1 = 0 →
                  K (nI 0)))))))))

def lp_X7_isRow_5 (x_length : Int32) (x_signs : Nat → Int32) (q2 : Int32) (E31 : Prop) (E46 : Int32 → Prop) : Nat → Int32 → Int32 → Prop
  | 0, _, _ => False
  | n + 1, v3, v4 =>
    (q2 ≤ v4 →
      E46 v3) ∧
    (¬ q2 ≤ v4 →
      wp_X7_signAt x_length x_signs v4 (fun r_4 =>
      wp_X7_partsOf r_4 (fun r_5 =>
      (r_5 < 0 →
        E31) ∧
      (¬ r_5 < 0 →
        (¬ v3 = 0 →
          ∀ v3_6 : Int32, v3_6 = v3 + (r_5 - (nI 1)) →
          ∀ v4_7 : Int32, v4_7 = v4 + (nI 1) →
          lp_X7_isRow_5 x_length x_signs q2 E31 E46 n v3_6 v4_7) ∧
        (v3 = 0 →
          E31)))))
def wp_X7_isRow (x_length : Int32) (x_signs : Nat → Int32) (p1 : Int32) (p2 : Int32) (K : Int32 → Prop) : Prop :=
    ∀ E31_1 : Prop,
    (
      (K (nI 0)) →
     E31_1) →
    ∀ E46_3 : Int32 → Prop,
      (∀ (v3_2 : Int32), 
        ((¬ v3_2 = 0 →
          K (nI 0)) ∧
        (v3_2 = 0 →
          ((nI 16) < (p2 - p1) →
            K (nI 0)) ∧
          (¬ (nI 16) < (p2 - p1) →
            K (nI 1)))) →
       E46_3 v3_2) →
      ∃ n : Nat, lp_X7_isRow_5 x_length x_signs p2 E31_1 E46_3 n (nI 1) p1

def lp_X7_placesIn_5 (x_length : Int32) (x_signs : Nat → Int32) (q2 : Int32) (E32 : Int32 → Prop) : Nat → Int32 → Int32 → Prop
  | 0, _, _ => False
  | n + 1, v3, v4 =>
    (q2 ≤ v4 →
      E32 v3) ∧
    (¬ q2 ≤ v4 →
      wp_X7_signAt x_length x_signs v4 (fun r_3 =>
      wp_X7_partsOf r_3 (fun r_4 =>
      (¬ r_4 = 0 →
        ∀ v4_5 : Int32, v4_5 = v4 + (nI 1) →
        lp_X7_placesIn_5 x_length x_signs q2 E32 n v3 v4_5) ∧
      (r_4 = 0 →
        ∀ v3_6 : Int32, v3_6 = v3 + (nI 1) →
        ∀ v4_7 : Int32, v4_7 = v4 + (nI 1) →
        lp_X7_placesIn_5 x_length x_signs q2 E32 n v3_6 v4_7))))
def wp_X7_placesIn (x_length : Int32) (x_signs : Nat → Int32) (p1 : Int32) (p2 : Int32) (K : Int32 → Prop) : Prop :=
    ∀ E32_2 : Int32 → Prop,
    (∀ (v3_1 : Int32), 
      (K v3_1) →
     E32_2 v3_1) →
    ∃ n : Nat, lp_X7_placesIn_5 x_length x_signs p2 E32_2 n (nI 0) p1

def wp_X7_isNextRule (x_length : Int32) (x_rulesSeen : Int32) (x_placesSeen : Int32) (x_signs : Nat → Int32) (p1 : Int32) (p2 : Int32) (K : Int32 → Int32 → Int32 → Prop) : Prop :=
    wp_X7_isRow x_length x_signs p1 p2 (fun r_1 =>
    (r_1 = 0 →
      K (nI 0) x_rulesSeen x_placesSeen) ∧
    (¬ r_1 = 0 →
      (x_rulesSeen < (nI 4) →
        wp_X7_placesIn x_length x_signs p1 p2 (fun r_2 =>
        ((x_placesSeen + r_2) ≤ (nI 10) →
          ∀ x_rulesSeen_3 : Int32, x_rulesSeen_3 = x_rulesSeen + (nI 1) →
          ∀ x_placesSeen_4 : Int32, x_placesSeen_4 = x_placesSeen + r_2 →
          K (nI 1) x_rulesSeen_3 x_placesSeen_4) ∧
        (¬ (x_placesSeen + r_2) ≤ (nI 10) →
          K (nI 0) x_rulesSeen x_placesSeen))) ∧
      (¬ x_rulesSeen < (nI 4) →
        K (nI 0) x_rulesSeen x_placesSeen)))

def wp_X7_isItem (x_length : Int32) (x_rulesSeen : Int32) (x_placesSeen : Int32) (x_signs : Nat → Int32) (p1 : Int32) (p2 : Int32) (K : Int32 → Int32 → Int32 → Prop) : Prop :=
    wp_X7_signAt x_length x_signs p1 (fun r_1 =>
    (r_1 = (nI 99) →
      wp_X7_hasFigure x_length x_signs p1 p2 (nI 6) (fun r_2 =>
      (r_2 = 0 →
        K (nI 0) x_rulesSeen x_placesSeen) ∧
      (¬ r_2 = 0 →
        wp_X7_areLetters x_length x_signs (p1 + (nI 3)) p2 (nI 1) (nI 26) (fun r_3 =>
        (r_3 = 0 →
          K (nI 0) x_rulesSeen x_placesSeen) ∧
        (¬ r_3 = 0 →
          K (nI 1) x_rulesSeen x_placesSeen))))) ∧
    (¬ r_1 = (nI 99) →
      (r_1 = (nI 114) →
        wp_X7_hasFigure x_length x_signs p1 p2 (nI 4) (fun r_4 =>
        (r_4 = 0 →
          K (nI 0) x_rulesSeen x_placesSeen) ∧
        (¬ r_4 = 0 →
          wp_X7_isNextRule x_length x_rulesSeen x_placesSeen x_signs (p1 + (nI 3)) p2 (fun r_7 x_rulesSeen_5 x_placesSeen_6 =>
          (r_7 = 0 →
            K (nI 0) x_rulesSeen_5 x_placesSeen_6) ∧
          (¬ r_7 = 0 →
            K (nI 1) x_rulesSeen_5 x_placesSeen_6))))) ∧
      (¬ r_1 = (nI 114) →
        (r_1 = (nI 115) →
          wp_X7_areLetters x_length x_signs (p1 + (nI 1)) p2 (nI 0) (nI 30) (fun r_8 =>
          narrow .boolean (.int r_8) = .int r_8 ∧
          K r_8 x_rulesSeen x_placesSeen)) ∧
        (¬ r_1 = (nI 115) →
          K (nI 0) x_rulesSeen x_placesSeen))))

def lp_X7_firstFault_14 (x_length : Int32) (x_signs : Nat → Int32) (E48 : Int32 → Int32 → Int32 → Prop) (E60 : Int32 → Int32 → Prop) : Nat → Int32 → Int32 → Int32 → Int32 → Prop
  | 0, _, _, _, _ => False
  | n + 1, v1, v2, x_rulesSeen, x_placesSeen =>
    ((nI 200) ≤ v2 →
      E60 x_rulesSeen x_placesSeen) ∧
    (¬ (nI 200) ≤ v2 →
      (x_length ≤ v1 →
        E60 x_rulesSeen x_placesSeen) ∧
      (¬ x_length ≤ v1 →
        wp_X7_endOfItem x_length x_signs v1 (fun r_8 =>
        (r_8 < 0 →
          E48 v1 x_rulesSeen x_placesSeen) ∧
        (¬ r_8 < 0 →
          wp_X7_isItem x_length x_rulesSeen x_placesSeen x_signs v1 r_8 (fun r_11 x_rulesSeen_9 x_placesSeen_10 =>
          (¬ r_11 = 0 →
            ∀ v1_12 : Int32, v1_12 = r_8 + (nI 1) →
            ∀ v2_13 : Int32, v2_13 = v2 + (nI 1) →
            lp_X7_firstFault_14 x_length x_signs E48 E60 n v1_12 v2_13 x_rulesSeen_9 x_placesSeen_10) ∧
          (r_11 = 0 →
            E48 v1 x_rulesSeen_9 x_placesSeen_10))))))
def wp_X7_firstFault (x_length : Int32) (x_rulesSeen : Int32) (x_placesSeen : Int32) (x_signs : Nat → Int32) (K : Int32 → Int32 → Int32 → Prop) : Prop :=
    ∀ E48_4 : Int32 → Int32 → Int32 → Prop,
    (∀ (v1_1 : Int32) (x_rulesSeen_2 : Int32) (x_placesSeen_3 : Int32), 
      (K v1_1 x_rulesSeen_2 x_placesSeen_3) →
     E48_4 v1_1 x_rulesSeen_2 x_placesSeen_3) →
    ∀ E60_7 : Int32 → Int32 → Prop,
      (∀ (x_rulesSeen_5 : Int32) (x_placesSeen_6 : Int32), 
        (K (-4) x_rulesSeen_5 x_placesSeen_6) →
       E60_7 x_rulesSeen_5 x_placesSeen_6) →
      ∃ n : Nat, lp_X7_firstFault_14 x_length x_signs E48_4 E60_7 n (nI 0) (nI 0) (nI 0) (nI 0)

def wp_X7_rulesSeen (x_rulesSeen : Int32) (K : Int32 → Prop) : Prop :=
    K x_rulesSeen

def wp_X4_clear (x_number : Int32) (x_placeNumber : Int32) (K : Int32 → Int32 → Prop) : Prop :=
    K (nI 0) (nI 0)

def lp_J7_fill_53178_5 (n_a : Nat) (q1 : Int32) (q3 : Int32) (E20 : (Nat → Int32) → Prop) : Nat → Int32 → (Nat → Int32) → Prop
  | 0, _, _ => False
  | n + 1, v2, x =>
    (q3 ≤ v2 →
      E20 x) ∧
    (¬ q3 ≤ v2 →
      vp_in v2 n_a ∧
      ∀ x_4 : Nat → Int32, x_4 = upd x v2.toNatClampNeg q1 →
      ∀ v2_5 : Int32, v2_5 = v2 + (nI 1) →
      lp_J7_fill_53178_5 n_a q1 q3 E20 n v2_5 x_4)
def wp_J7_fill_53178 (n_a : Nat) (x : Nat → Int32) (p1 : Int32) (K : (Nat → Int32) → Prop) : Prop :=
    ∀ v3_1 : Int32, v3_1 = nI n_a →
    ∀ E20_3 : (Nat → Int32) → Prop,
    (∀ (x_2 : Nat → Int32), 
      (K x_2) →
     E20_3 x_2) →
    ∃ n : Nat, lp_J7_fill_53178_5 n_a p1 v3_1 E20_3 n (nI 0) x

def wp_X6_clear (x_length : Int32) (x_classes : Nat → Int32) (x_kinds : Nat → Int32) (K : Int32 → (Nat → Int32) → (Nat → Int32) → Prop) : Prop :=
    wp_J7_fill_53178 26 x_classes (nI 0) (fun x_classes_1 =>
    wp_J7_fill_53178 4 x_kinds (nI 0) (fun x_kinds_2 =>
    K (nI 0) x_classes_1 x_kinds_2))

def wp_X6_clearLine (x_length : Int32) (K : Int32 → Prop) : Prop :=
    K (nI 0)

def wp_X6_length (x_length : Int32) (K : Int32 → Prop) : Prop :=
    K x_length

def lp_X6_putIn_27 (q1 : Int32) (E52 : (Nat → Int32) → Prop) : Nat → Int32 → (Nat → Int32) → Prop
  | 0, _, _ => False
  | n + 1, v3, x_line =>
    (v3 ≤ q1 →
      E52 x_line) ∧
    (¬ v3 ≤ q1 →
      vp_in (v3 - (nI 1)) 30 ∧
      ∀ t_5 : Int32, t_5 = x_line (v3 - (nI 1)).toNatClampNeg →
      vp_in v3 30 ∧
      ∀ x_line_6 : Nat → Int32, x_line_6 = upd x_line v3.toNatClampNeg t_5 →
      ∀ v3_7 : Int32, v3_7 = v3 + (-1) →
      lp_X6_putIn_27 q1 E52 n v3_7 x_line_6)
def wp_X6_putIn (x_length : Int32) (x_line : Nat → Int32) (p1 : Int32) (p2 : Int32) (K : Int32 → (Nat → Int32) → Prop) : Prop :=
    (p1 < 0 →
      K x_length x_line) ∧
    (¬ p1 < 0 →
      (x_length < p1 →
        K x_length x_line) ∧
      (¬ x_length < p1 →
        (x_length < (nI 30) →
          ∀ E52_2 : (Nat → Int32) → Prop,
          (∀ (x_line_1 : Nat → Int32), 
            (vp_in p1 30 ∧
            ∀ x_line_3 : Nat → Int32, x_line_3 = upd x_line_1 p1.toNatClampNeg p2 →
            ∀ x_length_4 : Int32, x_length_4 = x_length + (nI 1) →
            K x_length_4 x_line_3) →
           E52_2 x_line_1) →
          ∃ n : Nat, lp_X6_putIn_27 p1 E52_2 n x_length x_line) ∧
        (¬ x_length < (nI 30) →
          K x_length x_line)))

def wp_X4_number (x_number : Int32) (K : Int32 → Prop) : Prop :=
    K x_number

def wp_X6_setKind (x_kinds : Nat → Int32) (p1 : Int32) (p2 : Int32) (K : (Nat → Int32) → Prop) : Prop :=
    (p1 < 0 →
      K x_kinds) ∧
    (¬ p1 < 0 →
      ((nI 4) ≤ p1 →
        K x_kinds) ∧
      (¬ (nI 4) ≤ p1 →
        vp_in p1 4 ∧
        ∀ x_kinds_1 : Nat → Int32, x_kinds_1 = upd x_kinds p1.toNatClampNeg p2 →
        K x_kinds_1))

def wp_X2_clear (x_height : Int32) (K : Int32 → Prop) : Prop :=
    K (nI 0)

def wp_X2_push (x_height : Int32) (x_firsts : Nat → Int32) (x_lasts : Nat → Int32) (x_lacking : Nat → Int32) (p1 : Int32) (p2 : Int32) (p3 : Int32) (K : Int32 → (Nat → Int32) → (Nat → Int32) → (Nat → Int32) → Prop) : Prop :=
    ((nI 16) ≤ x_height →
      K x_height x_firsts x_lasts x_lacking) ∧
    (¬ (nI 16) ≤ x_height →
      vp_in x_height 16 ∧
      ∀ x_firsts_1 : Nat → Int32, x_firsts_1 = upd x_firsts x_height.toNatClampNeg p1 →
      vp_in x_height 16 ∧
      ∀ x_lasts_2 : Nat → Int32, x_lasts_2 = upd x_lasts x_height.toNatClampNeg p2 →
      vp_in x_height 16 ∧
      ∀ x_lacking_3 : Nat → Int32, x_lacking_3 = upd x_lacking x_height.toNatClampNeg (vp_nar .boolean p3) →
      ∀ x_height_4 : Int32, x_height_4 = x_height + (nI 1) →
      K x_height_4 x_firsts_1 x_lasts_2 x_lacking_3)

def wp_X4_addPlace (x_taken : Nat → Int32) (x_behinds : Nat → Int32) (x_parts_height : Int32) (x_parts_firsts : Nat → Int32) (x_parts_lasts : Nat → Int32) (x_parts_lacking : Nat → Int32) (p1 : Int32) (p2 : Int32) (K : (Nat → Int32) → (Nat → Int32) → Int32 → (Nat → Int32) → (Nat → Int32) → (Nat → Int32) → Prop) : Prop :=
    (p1 < 0 →
      K x_taken x_behinds x_parts_height x_parts_firsts x_parts_lasts x_parts_lacking) ∧
    (¬ p1 < 0 →
      ((nI 10) ≤ p1 →
        K x_taken x_behinds x_parts_height x_parts_firsts x_parts_lasts x_parts_lacking) ∧
      (¬ (nI 10) ≤ p1 →
        vp_in p1 10 ∧
        ∀ x_taken_1 : Nat → Int32, x_taken_1 = upd x_taken p1.toNatClampNeg p2 →
        vp_in p1 10 ∧
        ∀ x_behinds_2 : Nat → Int32, x_behinds_2 = upd x_behinds p1.toNatClampNeg (nI 0) →
        wp_X2_push x_parts_height x_parts_firsts x_parts_lasts x_parts_lacking ((nI 1) <<< (p1 &&& 31)) ((nI 1) <<< (p1 &&& 31)) (nI 0) (fun x_parts_height_3 x_parts_firsts_4 x_parts_lasts_5 x_parts_lacking_6 =>
        K x_taken_1 x_behinds_2 x_parts_height_3 x_parts_firsts_4 x_parts_lasts_5 x_parts_lacking_6)))

def wp_X2_first (x_height : Int32) (x_firsts : Nat → Int32) (K : Int32 → Prop) : Prop :=
    (x_height ≤ 0 →
      K (nI 0)) ∧
    (¬ x_height ≤ 0 →
      vp_in (x_height - (nI 1)) 16 ∧
      K (x_firsts (x_height - (nI 1)).toNatClampNeg))

def wp_X2_last (x_height : Int32) (x_lasts : Nat → Int32) (K : Int32 → Prop) : Prop :=
    (x_height ≤ 0 →
      K (nI 0)) ∧
    (¬ x_height ≤ 0 →
      vp_in (x_height - (nI 1)) 16 ∧
      K (x_lasts (x_height - (nI 1)).toNatClampNeg))

def wp_X2_mayLack (x_height : Int32) (x_lacking : Nat → Int32) (K : Int32 → Prop) : Prop :=
    (x_height ≤ 0 →
      K (nI 0)) ∧
    (¬ x_height ≤ 0 →
      vp_in (x_height - (nI 1)) 16 ∧
      ((x_lacking (x_height - (nI 1)).toNatClampNeg) = 0 →
        K (nI 0)) ∧
      (¬ (x_lacking (x_height - (nI 1)).toNatClampNeg) = 0 →
        K (nI 1)))

def wp_X2_pop (x_height : Int32) (K : Int32 → Prop) : Prop :=
    (x_height ≤ 0 →
      K x_height) ∧
    (¬ x_height ≤ 0 →
      ∀ x_height_1 : Int32, x_height_1 = x_height - (nI 1) →
      K x_height_1)

def lp_X4_goOn_2 (q1 : Int32) (q2 : Int32) (E32 : (Nat → Int32) → Prop) : Nat → Int32 → (Nat → Int32) → Prop
  | 0, _, _ => False
  | n + 1, v3, x_behinds =>
    ((nI 10) ≤ v3 →
      E32 x_behinds) ∧
    (¬ (nI 10) ≤ v3 →
      (((q1 >>> (v3 &&& 31)) &&& (nI 1)) = 0 →
        ∀ v3_3 : Int32, v3_3 = v3 + (nI 1) →
        lp_X4_goOn_2 q1 q2 E32 n v3_3 x_behinds) ∧
      (¬ ((q1 >>> (v3 &&& 31)) &&& (nI 1)) = 0 →
        vp_in v3 10 ∧
        ∀ t_4 : Int32, t_4 = (x_behinds v3.toNatClampNeg) ||| q2 →
        vp_in v3 10 ∧
        ∀ x_behinds_5 : Nat → Int32, x_behinds_5 = upd x_behinds v3.toNatClampNeg t_4 →
        ∀ v3_6 : Int32, v3_6 = v3 + (nI 1) →
        lp_X4_goOn_2 q1 q2 E32 n v3_6 x_behinds_5))
def wp_X4_goOn (x_behinds : Nat → Int32) (p1 : Int32) (p2 : Int32) (K : (Nat → Int32) → Prop) : Prop :=
    ∀ E32_2 : (Nat → Int32) → Prop,
    (∀ (x_behinds_1 : Nat → Int32), 
      (K x_behinds_1) →
     E32_2 x_behinds_1) →
    ∃ n : Nat, lp_X4_goOn_2 p1 p2 E32_2 n (nI 0) x_behinds

def wp_X4_joinOther (x_parts_height : Int32) (x_parts_firsts : Nat → Int32) (x_parts_lasts : Nat → Int32) (x_parts_lacking : Nat → Int32) (p1 : Int32) (p2 : Int32) (p3 : Int32) (K : Int32 → (Nat → Int32) → (Nat → Int32) → (Nat → Int32) → Prop) : Prop :=
    wp_X2_first x_parts_height x_parts_firsts (fun r_1 =>
    wp_X2_last x_parts_height x_parts_lasts (fun r_2 =>
    wp_X2_mayLack x_parts_height x_parts_lacking (fun r_3 =>
    wp_X2_pop x_parts_height (fun x_parts_height_4 =>
    ∀ J60_6 : Int32 → Prop,
    (∀ (s3_5 : Int32), 
      (wp_X2_push x_parts_height_4 x_parts_firsts x_parts_lasts x_parts_lacking (p1 ||| r_1) (p2 ||| r_2) s3_5 (fun x_parts_height_7 x_parts_firsts_8 x_parts_lasts_9 x_parts_lacking_10 =>
      K x_parts_height_7 x_parts_firsts_8 x_parts_lasts_9 x_parts_lacking_10)) →
     J60_6 s3_5) →
    ∀ J55_11 : Prop,
      (
        (J60_6 (nI 1)) →
       J55_11) →
      (¬ p3 = 0 →
          J55_11) ∧
        (p3 = 0 →
          (r_3 = 0 →
            J60_6 (nI 0)) ∧
          (¬ r_3 = 0 →
            J55_11))))))

def wp_X4_joinNext (x_behinds : Nat → Int32) (x_parts_height : Int32) (x_parts_firsts : Nat → Int32) (x_parts_lasts : Nat → Int32) (x_parts_lacking : Nat → Int32) (p1 : Int32) (p2 : Int32) (p3 : Int32) (K : (Nat → Int32) → Int32 → (Nat → Int32) → (Nat → Int32) → (Nat → Int32) → Prop) : Prop :=
    wp_X2_first x_parts_height x_parts_firsts (fun r_1 =>
    wp_X2_last x_parts_height x_parts_lasts (fun r_2 =>
    wp_X2_mayLack x_parts_height x_parts_lacking (fun r_3 =>
    wp_X2_pop x_parts_height (fun x_parts_height_4 =>
    wp_X4_goOn x_behinds p2 r_1 (fun x_behinds_5 =>
    ∀ J57_7 : Int32 → Prop,
    (∀ (s1_6 : Int32), 
      (∀ J71_9 : Int32 → Prop,
      (∀ (s2_8 : Int32), 
        (∀ J85_11 : Int32 → Prop,
        (∀ (s3_10 : Int32), 
          (wp_X2_push x_parts_height_4 x_parts_firsts x_parts_lasts x_parts_lacking s1_6 s2_8 s3_10 (fun x_parts_height_12 x_parts_firsts_13 x_parts_lasts_14 x_parts_lacking_15 =>
          K x_behinds_5 x_parts_height_12 x_parts_firsts_13 x_parts_lasts_14 x_parts_lacking_15)) →
         J85_11 s3_10) →
        ∀ J84_16 : Prop,
          (
            (J85_11 (nI 0)) →
           J84_16) →
          (p3 = 0 →
              J84_16) ∧
            (¬ p3 = 0 →
              (r_3 = 0 →
                J84_16) ∧
              (¬ r_3 = 0 →
                J85_11 (nI 1)))) →
       J71_9 s2_8) →
      (r_3 = 0 →
          J71_9 r_2) ∧
        (¬ r_3 = 0 →
          J71_9 (p2 ||| r_2))) →
     J57_7 s1_6) →
    (p3 = 0 →
        J57_7 p1) ∧
      (¬ p3 = 0 →
        J57_7 (p1 ||| r_1)))))))

def wp_X4_join (x_behinds : Nat → Int32) (x_parts_height : Int32) (x_parts_firsts : Nat → Int32) (x_parts_lasts : Nat → Int32) (x_parts_lacking : Nat → Int32) (p1 : Int32) (K : (Nat → Int32) → Int32 → (Nat → Int32) → (Nat → Int32) → (Nat → Int32) → Prop) : Prop :=
    wp_X2_first x_parts_height x_parts_firsts (fun r_1 =>
    wp_X2_last x_parts_height x_parts_lasts (fun r_2 =>
    wp_X2_mayLack x_parts_height x_parts_lacking (fun r_3 =>
    wp_X2_pop x_parts_height (fun x_parts_height_4 =>
    (p1 = (nI 38) →
      wp_X4_joinNext x_behinds x_parts_height_4 x_parts_firsts x_parts_lasts x_parts_lacking r_1 r_2 r_3 (fun x_behinds_5 x_parts_height_6 x_parts_firsts_7 x_parts_lasts_8 x_parts_lacking_9 =>
      K x_behinds_5 x_parts_height_6 x_parts_firsts_7 x_parts_lasts_8 x_parts_lacking_9)) ∧
    (¬ p1 = (nI 38) →
      (p1 = (nI 63) →
        wp_X2_push x_parts_height_4 x_parts_firsts x_parts_lasts x_parts_lacking r_1 r_2 (nI 1) (fun x_parts_height_10 x_parts_firsts_11 x_parts_lasts_12 x_parts_lacking_13 =>
        K x_behinds x_parts_height_10 x_parts_firsts_11 x_parts_lasts_12 x_parts_lacking_13)) ∧
      (¬ p1 = (nI 63) →
        (p1 = (nI 124) →
          wp_X4_joinOther x_parts_height_4 x_parts_firsts x_parts_lasts x_parts_lacking r_1 r_2 r_3 (fun x_parts_height_14 x_parts_firsts_15 x_parts_lasts_16 x_parts_lacking_17 =>
          K x_behinds x_parts_height_14 x_parts_firsts_15 x_parts_lasts_16 x_parts_lacking_17)) ∧
        (¬ p1 = (nI 124) →
          wp_X4_goOn x_behinds r_2 r_1 (fun x_behinds_18 =>
          ∀ J131_20 : Int32 → Prop,
          (∀ (s3_19 : Int32), 
            (wp_X2_push x_parts_height_4 x_parts_firsts x_parts_lasts x_parts_lacking r_1 r_2 s3_19 (fun x_parts_height_21 x_parts_firsts_22 x_parts_lasts_23 x_parts_lacking_24 =>
            K x_behinds_18 x_parts_height_21 x_parts_firsts_22 x_parts_lasts_23 x_parts_lacking_24)) →
           J131_20 s3_19) →
          ∀ J126_25 : Prop,
            (
              (J131_20 (nI 1)) →
             J126_25) →
            (¬ r_3 = 0 →
                J126_25) ∧
              (r_3 = 0 →
                (¬ p1 = (nI 42) →
                  J131_20 (nI 0)) ∧
                (p1 = (nI 42) →
                  J126_25))))))))))

def lp_X4_add_50 (y_length : Int32) (y_signs : Nat → Int32) (q2 : Int32) (E123 : (Nat → Int32) → (Nat → Int32) → Int32 → (Nat → Int32) → (Nat → Int32) → (Nat → Int32) → Prop) : Nat → Int32 → Int32 → (Nat → Int32) → (Nat → Int32) → Int32 → (Nat → Int32) → (Nat → Int32) → (Nat → Int32) → Prop
  | 0, _, _, _, _, _, _, _, _ => False
  | n + 1, v5, v6, x_taken, x_behinds, x_parts_height, x_parts_firsts, x_parts_lasts, x_parts_lacking =>
    (v6 < q2 →
      E123 x_taken x_behinds x_parts_height x_parts_firsts x_parts_lasts x_parts_lacking) ∧
    (¬ v6 < q2 →
      wp_X7_signAt y_length y_signs v6 (fun r_20 =>
      ∀ J82_21 : Prop,
      (
        (∀ v5_22 : Int32, v5_22 = v5 + (-1) →
        ∀ J105_24 : Int32 → Prop,
        (∀ (s2_23 : Int32), 
          (wp_X4_addPlace x_taken x_behinds x_parts_height x_parts_firsts x_parts_lasts x_parts_lacking v5_22 s2_23 (fun x_taken_25 x_behinds_26 x_parts_height_27 x_parts_firsts_28 x_parts_lasts_29 x_parts_lacking_30 =>
          ∀ v6_31 : Int32, v6_31 = v6 + (-1) →
          lp_X4_add_50 y_length y_signs q2 E123 n v5_22 v6_31 x_taken_25 x_behinds_26 x_parts_height_27 x_parts_firsts_28 x_parts_lasts_29 x_parts_lacking_30)) →
         J105_24 s2_23) →
        (¬ r_20 = (nI 46) →
            J105_24 (r_20 - (nI 48))) ∧
          (r_20 = (nI 46) →
            J105_24 (nI 6))) →
       J82_21) →
      (r_20 = (nI 46) →
          J82_21) ∧
        (¬ r_20 = (nI 46) →
          wp_X9_isClass (r_20 - (nI 48)) (fun r_32 =>
          (r_32 = 0 →
            wp_X4_join x_behinds x_parts_height x_parts_firsts x_parts_lasts x_parts_lacking r_20 (fun x_behinds_33 x_parts_height_34 x_parts_firsts_35 x_parts_lasts_36 x_parts_lacking_37 =>
            ∀ v6_38 : Int32, v6_38 = v6 + (-1) →
            lp_X4_add_50 y_length y_signs q2 E123 n v5 v6_38 x_taken x_behinds_33 x_parts_height_34 x_parts_firsts_35 x_parts_lasts_36 x_parts_lacking_37)) ∧
          (¬ r_32 = 0 →
            J82_21)))))
def wp_X4_add (x_number : Int32) (x_placeNumber : Int32) (x_places : Nat → Int32) (x_firsts : Nat → Int32) (x_wholes : Nat → Int32) (x_taken : Nat → Int32) (x_behinds : Nat → Int32) (x_parts_height : Int32) (x_parts_firsts : Nat → Int32) (x_parts_lasts : Nat → Int32) (x_parts_lacking : Nat → Int32) (y_length : Int32) (y_signs : Nat → Int32) (p2 : Int32) (p3 : Int32) (K : Int32 → Int32 → (Nat → Int32) → (Nat → Int32) → (Nat → Int32) → (Nat → Int32) → (Nat → Int32) → Int32 → (Nat → Int32) → (Nat → Int32) → (Nat → Int32) → Prop) : Prop :=
    wp_X7_placesIn y_length y_signs p2 p3 (fun r_1 =>
    ((nI 4) ≤ x_number →
      K x_number x_placeNumber x_places x_firsts x_wholes x_taken x_behinds x_parts_height x_parts_firsts x_parts_lasts x_parts_lacking) ∧
    (¬ (nI 4) ≤ x_number →
      ((x_placeNumber + r_1) ≤ (nI 10) →
        wp_X2_clear x_parts_height (fun x_parts_height_2 =>
        ∀ v5_3 : Int32, v5_3 = x_placeNumber + r_1 →
        ∀ v6_4 : Int32, v6_4 = p3 - (nI 1) →
        ∀ E123_11 : (Nat → Int32) → (Nat → Int32) → Int32 → (Nat → Int32) → (Nat → Int32) → (Nat → Int32) → Prop,
        (∀ (x_taken_5 : Nat → Int32) (x_behinds_6 : Nat → Int32) (x_parts_height_7 : Int32) (x_parts_firsts_8 : Nat → Int32) (x_parts_lasts_9 : Nat → Int32) (x_parts_lacking_10 : Nat → Int32), 
          (∀ t_12 : Int32, t_12 = ((nI 1) <<< ((x_placeNumber + r_1) &&& 31)) - ((nI 1) <<< (x_placeNumber &&& 31)) →
          vp_in x_number 4 ∧
          ∀ x_places_13 : Nat → Int32, x_places_13 = upd x_places x_number.toNatClampNeg t_12 →
          wp_X2_first x_parts_height_7 x_parts_firsts_8 (fun r_14 =>
          vp_in x_number 4 ∧
          ∀ x_firsts_15 : Nat → Int32, x_firsts_15 = upd x_firsts x_number.toNatClampNeg r_14 →
          wp_X2_last x_parts_height_7 x_parts_lasts_9 (fun r_16 =>
          vp_in x_number 4 ∧
          ∀ x_wholes_17 : Nat → Int32, x_wholes_17 = upd x_wholes x_number.toNatClampNeg r_16 →
          ∀ x_number_18 : Int32, x_number_18 = x_number + (nI 1) →
          ∀ x_placeNumber_19 : Int32, x_placeNumber_19 = x_placeNumber + r_1 →
          K x_number_18 x_placeNumber_19 x_places_13 x_firsts_15 x_wholes_17 x_taken_5 x_behinds_6 x_parts_height_7 x_parts_firsts_8 x_parts_lasts_9 x_parts_lacking_10))) →
         E123_11 x_taken_5 x_behinds_6 x_parts_height_7 x_parts_firsts_8 x_parts_lasts_9 x_parts_lacking_10) →
        ∃ n : Nat, lp_X4_add_50 y_length y_signs p2 E123_11 n v5_3 v6_4 x_taken x_behinds x_parts_height_2 x_parts_firsts x_parts_lasts x_parts_lacking)) ∧
      (¬ (x_placeNumber + r_1) ≤ (nI 10) →
        K x_number x_placeNumber x_places x_firsts x_wholes x_taken x_behinds x_parts_height x_parts_firsts x_parts_lasts x_parts_lacking)))

def wp_X6_setClass (x_classes : Nat → Int32) (p1 : Int32) (p2 : Int32) (K : (Nat → Int32) → Prop) : Prop :=
    wp_X9_isLetter p1 (fun r_1 =>
    (r_1 = 0 →
      K x_classes) ∧
    (¬ r_1 = 0 →
      vp_in p1 26 ∧
      ∀ x_classes_2 : Nat → Int32, x_classes_2 = upd x_classes p1.toNatClampNeg p2 →
      K x_classes_2))

def lp_X7_tellItem_53 (x_length : Int32) (x_signs : Nat → Int32) (q1 : Int32) (q4 : Int32) (E89 : (Nat → Int32) → Prop) : Nat → Int32 → (Nat → Int32) → Prop
  | 0, _, _ => False
  | n + 1, v5, z_classes =>
    (q4 ≤ v5 →
      E89 z_classes) ∧
    (¬ q4 ≤ v5 →
      wp_X7_signAt x_length x_signs v5 (fun r_6 =>
      wp_X7_signAt x_length x_signs (q1 + (nI 1)) (fun r_7 =>
      wp_X6_setClass z_classes (r_6 - (nI 97)) (r_7 - (nI 48)) (fun z_classes_8 =>
      ∀ v5_9 : Int32, v5_9 = v5 + (nI 1) →
      lp_X7_tellItem_53 x_length x_signs q1 q4 E89 n v5_9 z_classes_8))))
def lp_X7_tellItem_132 (x_length : Int32) (x_signs : Nat → Int32) (q4 : Int32) (E162 : Int32 → (Nat → Int32) → Prop) : Nat → Int32 → Int32 → (Nat → Int32) → Prop
  | 0, _, _, _ => False
  | n + 1, v5, z_length, z_line =>
    (q4 ≤ v5 →
      E162 z_length z_line) ∧
    (¬ q4 ≤ v5 →
      wp_X6_length z_length (fun r_35 =>
      wp_X7_signAt x_length x_signs v5 (fun r_36 =>
      wp_X6_putIn z_length z_line r_35 (r_36 - (nI 97)) (fun z_length_37 z_line_38 =>
      ∀ v5_39 : Int32, v5_39 = v5 + (nI 1) →
      lp_X7_tellItem_132 x_length x_signs q4 E162 n v5_39 z_length_37 z_line_38))))
def wp_X7_tellItem (x_length : Int32) (x_signs : Nat → Int32) (y_number : Int32) (y_placeNumber : Int32) (y_places : Nat → Int32) (y_firsts : Nat → Int32) (y_wholes : Nat → Int32) (y_taken : Nat → Int32) (y_behinds : Nat → Int32) (y_parts_height : Int32) (y_parts_firsts : Nat → Int32) (y_parts_lasts : Nat → Int32) (y_parts_lacking : Nat → Int32) (z_length : Int32) (z_classes : Nat → Int32) (z_kinds : Nat → Int32) (z_line : Nat → Int32) (p1 : Int32) (K : Int32 → Int32 → Int32 → (Nat → Int32) → (Nat → Int32) → (Nat → Int32) → (Nat → Int32) → (Nat → Int32) → Int32 → (Nat → Int32) → (Nat → Int32) → (Nat → Int32) → Int32 → (Nat → Int32) → (Nat → Int32) → (Nat → Int32) → Prop) : Prop :=
    wp_X7_endOfItem x_length x_signs p1 (fun r_1 =>
    (0 ≤ r_1 →
      wp_X7_signAt x_length x_signs p1 (fun r_2 =>
      (r_2 = (nI 99) →
        ∀ v5_3 : Int32, v5_3 = p1 + (nI 3) →
        ∀ E89_5 : (Nat → Int32) → Prop,
        (∀ (z_classes_4 : Nat → Int32), 
          (K (r_1 + (nI 1)) y_number y_placeNumber y_places y_firsts y_wholes y_taken y_behinds y_parts_height y_parts_firsts y_parts_lasts y_parts_lacking z_length z_classes_4 z_kinds z_line) →
         E89_5 z_classes_4) →
        ∃ n : Nat, lp_X7_tellItem_53 x_length x_signs p1 r_1 E89_5 n v5_3 z_classes) ∧
      (¬ r_2 = (nI 99) →
        (r_2 = (nI 114) →
          wp_X4_number y_number (fun r_16 =>
          wp_X7_signAt x_length x_signs (p1 + (nI 1)) (fun r_17 =>
          wp_X6_setKind z_kinds r_16 (r_17 - (nI 48)) (fun z_kinds_18 =>
          wp_X4_add y_number y_placeNumber y_places y_firsts y_wholes y_taken y_behinds y_parts_height y_parts_firsts y_parts_lasts y_parts_lacking x_length x_signs (p1 + (nI 3)) r_1 (fun y_number_19 y_placeNumber_20 y_places_21 y_firsts_22 y_wholes_23 y_taken_24 y_behinds_25 y_parts_height_26 y_parts_firsts_27 y_parts_lasts_28 y_parts_lacking_29 =>
          K (r_1 + (nI 1)) y_number_19 y_placeNumber_20 y_places_21 y_firsts_22 y_wholes_23 y_taken_24 y_behinds_25 y_parts_height_26 y_parts_firsts_27 y_parts_lasts_28 y_parts_lacking_29 z_length z_classes z_kinds_18 z_line))))) ∧
        (¬ r_2 = (nI 114) →
          wp_X6_clearLine z_length (fun z_length_30 =>
          ∀ v5_31 : Int32, v5_31 = p1 + (nI 1) →
          ∀ E162_34 : Int32 → (Nat → Int32) → Prop,
          (∀ (z_length_32 : Int32) (z_line_33 : Nat → Int32), 
            (K (r_1 + (nI 1)) y_number y_placeNumber y_places y_firsts y_wholes y_taken y_behinds y_parts_height y_parts_firsts y_parts_lasts y_parts_lacking z_length_32 z_classes z_kinds z_line_33) →
           E162_34 z_length_32 z_line_33) →
          ∃ n : Nat, lp_X7_tellItem_132 x_length x_signs r_1 E162_34 n v5_31 z_length_30 z_line))))) ∧
    (¬ 0 ≤ r_1 →
      K x_length y_number y_placeNumber y_places y_firsts y_wholes y_taken y_behinds y_parts_height y_parts_firsts y_parts_lasts y_parts_lacking z_length z_classes z_kinds z_line))

def wp_X0_forget (x_number : Int32) (K : Int32 → Prop) : Prop :=
    K (nI 0)

def wp_X4_placeNumber (x_placeNumber : Int32) (K : Int32 → Prop) : Prop :=
    K x_placeNumber

def wp_X4_hasPlace (x_placeNumber : Int32) (p1 : Int32) (K : Int32 → Prop) : Prop :=
    (p1 < 0 →
      K (nI 0)) ∧
    (¬ p1 < 0 →
      (x_placeNumber ≤ p1 →
        K (nI 0)) ∧
      (¬ x_placeNumber ≤ p1 →
        K (nI 1)))

def wp_X4_takenAt (x_placeNumber : Int32) (x_taken : Nat → Int32) (p1 : Int32) (K : Int32 → Prop) : Prop :=
    wp_X4_hasPlace x_placeNumber p1 (fun r_1 =>
    (r_1 = 0 →
      K (nI 6)) ∧
    (¬ r_1 = 0 →
      vp_in p1 10 ∧
      K (x_taken p1.toNatClampNeg)))

def lp_X5_makeTakers_20 (y_placeNumber : Int32) (y_taken : Nat → Int32) (q2 : Int32) (E63 : (Nat → Int32) → Prop) : Nat → Int32 → (Nat → Int32) → Prop
  | 0, _, _ => False
  | n + 1, v3, x_takers =>
    ((nI 6) ≤ v3 →
      E63 x_takers) ∧
    (¬ (nI 6) ≤ v3 →
      wp_X4_takenAt y_placeNumber y_taken q2 (fun r_8 =>
      ∀ J45_9 : Prop,
      (
        (vp_in v3 6 ∧
        ∀ t_10 : Int32, t_10 = (x_takers v3.toNatClampNeg) ||| ((nI 1) <<< (q2 &&& 31)) →
        vp_in v3 6 ∧
        ∀ x_takers_11 : Nat → Int32, x_takers_11 = upd x_takers v3.toNatClampNeg t_10 →
        ∀ v3_12 : Int32, v3_12 = v3 + (nI 1) →
        lp_X5_makeTakers_20 y_placeNumber y_taken q2 E63 n v3_12 x_takers_11) →
       J45_9) →
      (r_8 = v3 →
          J45_9) ∧
        (¬ r_8 = v3 →
          wp_X4_takenAt y_placeNumber y_taken q2 (fun r_13 =>
          (¬ r_13 = (nI 6) →
            ∀ v3_14 : Int32, v3_14 = v3 + (nI 1) →
            lp_X5_makeTakers_20 y_placeNumber y_taken q2 E63 n v3_14 x_takers) ∧
          (r_13 = (nI 6) →
            J45_9)))))
def lp_X5_makeTakers_10 (y_placeNumber : Int32) (y_taken : Nat → Int32) (E69 : (Nat → Int32) → Prop) : Nat → Int32 → (Nat → Int32) → Prop
  | 0, _, _ => False
  | n + 1, v2, x_takers =>
    wp_X4_placeNumber y_placeNumber (fun r_4 =>
    (r_4 ≤ v2 →
      E69 x_takers) ∧
    (¬ r_4 ≤ v2 →
      ∀ E63_6 : (Nat → Int32) → Prop,
      (∀ (x_takers_5 : Nat → Int32), 
        (∀ v2_7 : Int32, v2_7 = v2 + (nI 1) →
        lp_X5_makeTakers_10 y_placeNumber y_taken E69 n v2_7 x_takers_5) →
       E63_6 x_takers_5) →
      ∃ n : Nat, lp_X5_makeTakers_20 y_placeNumber y_taken v2 E63_6 n (nI 0) x_takers))
def wp_X5_makeTakers (x_takers : Nat → Int32) (y_placeNumber : Int32) (y_taken : Nat → Int32) (K : (Nat → Int32) → Prop) : Prop :=
    wp_J7_fill_53178 6 x_takers (nI 0) (fun x_takers_1 =>
    ∀ E69_3 : (Nat → Int32) → Prop,
    (∀ (x_takers_2 : Nat → Int32), 
      (K x_takers_2) →
     E69_3 x_takers_2) →
    ∃ n : Nat, lp_X5_makeTakers_10 y_placeNumber y_taken E69_3 n (nI 0) x_takers_1)

def wp_X4_has (x_number : Int32) (p1 : Int32) (K : Int32 → Prop) : Prop :=
    (p1 < 0 →
      K (nI 0)) ∧
    (¬ p1 < 0 →
      (x_number ≤ p1 →
        K (nI 0)) ∧
      (¬ x_number ≤ p1 →
        K (nI 1)))

def wp_X4_firstOf (x_number : Int32) (x_firsts : Nat → Int32) (p1 : Int32) (K : Int32 → Prop) : Prop :=
    wp_X4_has x_number p1 (fun r_1 =>
    (r_1 = 0 →
      K (nI 0)) ∧
    (¬ r_1 = 0 →
      vp_in p1 4 ∧
      K (x_firsts p1.toNatClampNeg)))

def wp_X6_kindOf (x_kinds : Nat → Int32) (p1 : Int32) (K : Int32 → Prop) : Prop :=
    (p1 < 0 →
      K (nI 0)) ∧
    (¬ p1 < 0 →
      ((nI 4) ≤ p1 →
        K (nI 0)) ∧
      (¬ (nI 4) ≤ p1 →
        vp_in p1 4 ∧
        K (x_kinds p1.toNatClampNeg)))

def wp_X4_placesOf (x_number : Int32) (x_places : Nat → Int32) (p1 : Int32) (K : Int32 → Prop) : Prop :=
    wp_X4_has x_number p1 (fun r_1 =>
    (r_1 = 0 →
      K (nI 0)) ∧
    (¬ r_1 = 0 →
      vp_in p1 4 ∧
      K (x_places p1.toNatClampNeg)))

def wp_X4_wholeOf (x_number : Int32) (x_wholes : Nat → Int32) (p1 : Int32) (K : Int32 → Prop) : Prop :=
    wp_X4_has x_number p1 (fun r_1 =>
    (r_1 = 0 →
      K (nI 0)) ∧
    (¬ r_1 = 0 →
      vp_in p1 4 ∧
      K (x_wholes p1.toNatClampNeg)))

def wp_X4_behind (x_placeNumber : Int32) (x_behinds : Nat → Int32) (p1 : Int32) (K : Int32 → Prop) : Prop :=
    wp_X4_hasPlace x_placeNumber p1 (fun r_1 =>
    (r_1 = 0 →
      K (nI 0)) ∧
    (¬ r_1 = 0 →
      vp_in p1 10 ∧
      K (x_behinds p1.toNatClampNeg)))

def lp_X5_letGoOn_2 (y_placeNumber : Int32) (y_behinds : Nat → Int32) (q2 : Int32) (E33 : (Nat → Int32) → Prop) : Nat → Int32 → (Nat → Int32) → Prop
  | 0, _, _ => False
  | n + 1, v3, x_onward =>
    ((nI 10) ≤ v3 →
      E33 x_onward) ∧
    (¬ (nI 10) ≤ v3 →
      (((q2 >>> (v3 &&& 31)) &&& (nI 1)) = 0 →
        ∀ v3_3 : Int32, v3_3 = v3 + (nI 1) →
        lp_X5_letGoOn_2 y_placeNumber y_behinds q2 E33 n v3_3 x_onward) ∧
      (¬ ((q2 >>> (v3 &&& 31)) &&& (nI 1)) = 0 →
        wp_X4_behind y_placeNumber y_behinds v3 (fun r_4 =>
        vp_in v3 10 ∧
        ∀ x_onward_5 : Nat → Int32, x_onward_5 = upd x_onward v3.toNatClampNeg r_4 →
        ∀ v3_6 : Int32, v3_6 = v3 + (nI 1) →
        lp_X5_letGoOn_2 y_placeNumber y_behinds q2 E33 n v3_6 x_onward_5)))
def wp_X5_letGoOn (x_onward : Nat → Int32) (y_placeNumber : Int32) (y_behinds : Nat → Int32) (p2 : Int32) (K : (Nat → Int32) → Prop) : Prop :=
    ∀ E33_2 : (Nat → Int32) → Prop,
    (∀ (x_onward_1 : Nat → Int32), 
      (K x_onward_1) →
     E33_2 x_onward_1) →
    ∃ n : Nat, lp_X5_letGoOn_2 y_placeNumber y_behinds p2 E33_2 n (nI 0) x_onward

def lp_X5_make_25 (y_number : Int32) (y_placeNumber : Int32) (y_places : Nat → Int32) (y_firsts : Nat → Int32) (y_wholes : Nat → Int32) (y_behinds : Nat → Int32) (z_kinds : Nat → Int32) (E125 : Int32 → Int32 → (Nat → Int32) → Prop) : Nat → Int32 → Int32 → Int32 → (Nat → Int32) → Prop
  | 0, _, _, _, _ => False
  | n + 1, v3, x_firsts, x_loose, x_onward =>
    wp_X4_number y_number (fun r_7 =>
    (r_7 ≤ v3 →
      E125 x_firsts x_loose x_onward) ∧
    (¬ r_7 ≤ v3 →
      wp_X4_firstOf y_number y_firsts v3 (fun r_8 =>
      ∀ x_firsts_9 : Int32, x_firsts_9 = x_firsts ||| r_8 →
      wp_X6_kindOf z_kinds v3 (fun r_10 =>
      ∀ J71_12 : Int32 → Prop,
      (∀ (x_loose_11 : Int32), 
        (wp_X6_kindOf z_kinds v3 (fun r_13 =>
        ∀ J86_15 : Int32 → Prop,
        (∀ (s0_14 : Int32), 
          (∀ J116_17 : Int32 → Prop,
          (∀ (s2_16 : Int32), 
            (wp_X5_letGoOn x_onward y_placeNumber y_behinds s2_16 (fun x_onward_18 =>
            ∀ v3_19 : Int32, v3_19 = v3 + (nI 1) →
            lp_X5_make_25 y_number y_placeNumber y_places y_firsts y_wholes y_behinds z_kinds E125 n v3_19 x_firsts_9 x_loose_11 x_onward_18)) →
           J116_17 s2_16) →
          (s0_14 = 0 →
              wp_X4_placesOf y_number y_places v3 (fun r_20 =>
              J116_17 r_20)) ∧
            (¬ s0_14 = 0 →
              wp_X4_placesOf y_number y_places v3 (fun r_21 =>
              wp_X4_wholeOf y_number y_wholes v3 (fun r_22 =>
              J116_17 (r_21 &&& (r_22 ^^^ (-1))))))) →
         J86_15 s0_14) →
        ((r_13 &&& (nI 2)) = 0 →
            J86_15 (nI 0)) ∧
          (¬ (r_13 &&& (nI 2)) = 0 →
            J86_15 (nI 1)))) →
       J71_12 x_loose_11) →
      ((r_10 &&& (nI 1)) = 0 →
          J71_12 x_loose) ∧
        (¬ (r_10 &&& (nI 1)) = 0 →
          wp_X4_placesOf y_number y_places v3 (fun r_23 =>
          ∀ x_loose_24 : Int32, x_loose_24 = x_loose ||| r_23 →
          J71_12 x_loose_24))))))
def wp_X5_make (x_firsts : Int32) (x_loose : Int32) (x_onward : Nat → Int32) (x_takers : Nat → Int32) (y_number : Int32) (y_placeNumber : Int32) (y_places : Nat → Int32) (y_firsts : Nat → Int32) (y_wholes : Nat → Int32) (y_taken : Nat → Int32) (y_behinds : Nat → Int32) (z_kinds : Nat → Int32) (K : Int32 → Int32 → (Nat → Int32) → (Nat → Int32) → Prop) : Prop :=
    wp_X5_makeTakers x_takers y_placeNumber y_taken (fun x_takers_1 =>
    wp_J7_fill_53178 10 x_onward (nI 0) (fun x_onward_2 =>
    ∀ E125_6 : Int32 → Int32 → (Nat → Int32) → Prop,
    (∀ (x_firsts_3 : Int32) (x_loose_4 : Int32) (x_onward_5 : Nat → Int32), 
      (K x_firsts_3 x_loose_4 x_onward_5 x_takers_1) →
     E125_6 x_firsts_3 x_loose_4 x_onward_5) →
    ∃ n : Nat, lp_X5_make_25 y_number y_placeNumber y_places y_firsts y_wholes y_behinds z_kinds E125_6 n (nI 0) (nI 0) (nI 0) x_onward_2))

def wp_X8_forget (x_areFound : Int32) (K : Int32 → Prop) : Prop :=
    K (nI 0)

def wp_X6_letterAt (x_length : Int32) (x_line : Nat → Int32) (p1 : Int32) (K : Int32 → Prop) : Prop :=
    (p1 < 0 →
      K (nI 0)) ∧
    (¬ p1 < 0 →
      (x_length ≤ p1 →
        K (nI 0)) ∧
      (¬ x_length ≤ p1 →
        vp_in p1 30 ∧
        K (x_line p1.toNatClampNeg)))

def wp_X6_classOf (x_classes : Nat → Int32) (p1 : Int32) (K : Int32 → Prop) : Prop :=
    wp_X9_isLetter p1 (fun r_1 =>
    (r_1 = 0 →
      K (nI 0)) ∧
    (¬ r_1 = 0 →
      vp_in p1 26 ∧
      K (x_classes p1.toNatClampNeg)))

def wp_X6_classAt (x_length : Int32) (x_classes : Nat → Int32) (x_line : Nat → Int32) (p1 : Int32) (K : Int32 → Prop) : Prop :=
    wp_X6_letterAt x_length x_line p1 (fun r_1 =>
    wp_X6_classOf x_classes r_1 (fun r_2 =>
    K r_2))

def lp_X5_goOn_28 (x_onward : Nat → Int32) (x_takers : Nat → Int32) (q1 : Int32) (q2 : Int32) (E67 : Int32 → Prop) : Nat → Int32 → Int32 → Prop
  | 0, _, _ => False
  | n + 1, v3, v4 =>
    ((nI 10) ≤ v4 →
      E67 v3) ∧
    (¬ (nI 10) ≤ v4 →
      (((q1 >>> (v4 &&& 31)) &&& (nI 1)) = 0 →
        ∀ v4_6 : Int32, v4_6 = v4 + (nI 1) →
        lp_X5_goOn_28 x_onward x_takers q1 q2 E67 n v3 v4_6) ∧
      (¬ ((q1 >>> (v4 &&& 31)) &&& (nI 1)) = 0 →
        vp_in v4 10 ∧
        vp_in q2 6 ∧
        ∀ v3_7 : Int32, v3_7 = v3 ||| ((x_onward v4.toNatClampNeg) &&& (x_takers q2.toNatClampNeg)) →
        ∀ v4_8 : Int32, v4_8 = v4 + (nI 1) →
        lp_X5_goOn_28 x_onward x_takers q1 q2 E67 n v3_7 v4_8))
def wp_X5_goOn (x_loose : Int32) (x_onward : Nat → Int32) (x_takers : Nat → Int32) (p1 : Int32) (p2 : Int32) (K : Int32 → Prop) : Prop :=
    wp_X9_isClass p2 (fun r_1 =>
    (¬ r_1 = 0 →
      ∀ J24_3 : Int32 → Prop,
      (∀ (s0_2 : Int32), 
        (∀ E67_5 : Int32 → Prop,
        (∀ (v3_4 : Int32), 
          (K v3_4) →
         E67_5 v3_4) →
        ∃ n : Nat, lp_X5_goOn_28 x_onward x_takers p1 p2 E67_5 n s0_2 (nI 0)) →
       J24_3 s0_2) →
      (¬ p2 = (nI 5) →
          J24_3 (nI 0)) ∧
        (p2 = (nI 5) →
          J24_3 (p1 &&& x_loose))) ∧
    (r_1 = 0 →
      K (nI 0)))

def wp_X5_begunBy (x_firsts : Int32) (x_takers : Nat → Int32) (p1 : Int32) (K : Int32 → Prop) : Prop :=
    wp_X9_isClass p1 (fun r_1 =>
    (r_1 = 0 →
      K (nI 0)) ∧
    (¬ r_1 = 0 →
      vp_in p1 6 ∧
      K (x_firsts &&& (x_takers p1.toNatClampNeg))))

def lp_X3_read_26 (x_length : Int32) (y_length : Int32) (y_classes : Nat → Int32) (y_line : Nat → Int32) (z_firsts : Int32) (z_loose : Int32) (z_onward : Nat → Int32) (z_takers : Nat → Int32) (q3 : Int32) (E100 : Int32 → (Nat → Int32) → Prop) : Nat → Int32 → Int32 → Int32 → (Nat → Int32) → Prop
  | 0, _, _, _, _ => False
  | n + 1, v4, v5, x_bounds, x_stands =>
    (x_length ≤ v5 →
      E100 x_bounds x_stands) ∧
    (¬ x_length ≤ v5 →
      wp_X6_classAt y_length y_classes y_line v5 (fun r_6 =>
      wp_X5_goOn z_loose z_onward z_takers v4 r_6 (fun r_7 =>
      (¬ r_7 = 0 →
        vp_in (v5 + (nI 1)) 31 ∧
        ∀ x_stands_8 : Nat → Int32, x_stands_8 = upd x_stands (v5 + (nI 1)).toNatClampNeg r_7 →
        ∀ v5_9 : Int32, v5_9 = v5 + (nI 1) →
        lp_X3_read_26 x_length y_length y_classes y_line z_firsts z_loose z_onward z_takers q3 E100 n r_7 v5_9 x_bounds x_stands_8) ∧
      (r_7 = 0 →
        ∀ x_bounds_10 : Int32, x_bounds_10 = x_bounds ||| ((nI 1) <<< (v5 &&& 31)) →
        wp_X5_begunBy z_firsts z_takers r_6 (fun r_11 =>
        ∀ v4_12 : Int32, v4_12 = r_11 &&& (q3 ^^^ (-1)) →
        vp_in (v5 + (nI 1)) 31 ∧
        ∀ x_stands_13 : Nat → Int32, x_stands_13 = upd x_stands (v5 + (nI 1)).toNatClampNeg v4_12 →
        ∀ v5_14 : Int32, v5_14 = v5 + (nI 1) →
        lp_X3_read_26 x_length y_length y_classes y_line z_firsts z_loose z_onward z_takers q3 E100 n v4_12 v5_14 x_bounds_10 x_stands_13)))))
def wp_X3_read (x_length : Int32) (x_bounds : Int32) (x_stands : Nat → Int32) (y_length : Int32) (y_classes : Nat → Int32) (y_line : Nat → Int32) (z_firsts : Int32) (z_loose : Int32) (z_onward : Nat → Int32) (z_takers : Nat → Int32) (p3 : Int32) (K : Int32 → Int32 → (Nat → Int32) → Prop) : Prop :=
    wp_X6_length y_length (fun r_1 =>
    ∀ x_bounds_2 : Int32, x_bounds_2 = (nI 1) ||| ((nI 1) <<< (r_1 &&& 31)) →
    ∀ E100_5 : Int32 → (Nat → Int32) → Prop,
    (∀ (x_bounds_3 : Int32) (x_stands_4 : Nat → Int32), 
      (K r_1 x_bounds_3 x_stands_4) →
     E100_5 x_bounds_3 x_stands_4) →
    ∃ n : Nat, lp_X3_read_26 r_1 y_length y_classes y_line z_firsts z_loose z_onward z_takers p3 E100_5 n (nI 0) (nI 0) x_bounds_2 x_stands)

def wp_X9_lineHasChanged (x_now_length : Int32) (x_now_classes : Nat → Int32) (x_now_line : Nat → Int32) (x_steps_firsts : Int32) (x_steps_loose : Int32) (x_steps_onward : Nat → Int32) (x_steps_takers : Nat → Int32) (x_pieces_length : Int32) (x_pieces_bounds : Int32) (x_pieces_stands : Nat → Int32) (K : Int32 → Int32 → (Nat → Int32) → Prop) : Prop :=
    wp_X3_read x_pieces_length x_pieces_bounds x_pieces_stands x_now_length x_now_classes x_now_line x_steps_firsts x_steps_loose x_steps_onward x_steps_takers (nI 0) (fun x_pieces_length_1 x_pieces_bounds_2 x_pieces_stands_3 =>
    K x_pieces_length_1 x_pieces_bounds_2 x_pieces_stands_3)

def wp_X9_rulesHaveChanged (x_rules_number : Int32) (x_rules_placeNumber : Int32) (x_rules_places : Nat → Int32) (x_rules_firsts : Nat → Int32) (x_rules_wholes : Nat → Int32) (x_rules_taken : Nat → Int32) (x_rules_behinds : Nat → Int32) (x_now_length : Int32) (x_now_classes : Nat → Int32) (x_now_kinds : Nat → Int32) (x_now_line : Nat → Int32) (x_steps_firsts : Int32) (x_steps_loose : Int32) (x_steps_onward : Nat → Int32) (x_steps_takers : Nat → Int32) (x_pieces_length : Int32) (x_pieces_bounds : Int32) (x_pieces_stands : Nat → Int32) (x_ways_areFound : Int32) (K : Int32 → Int32 → (Nat → Int32) → (Nat → Int32) → Int32 → Int32 → (Nat → Int32) → Int32 → Prop) : Prop :=
    wp_X5_make x_steps_firsts x_steps_loose x_steps_onward x_steps_takers x_rules_number x_rules_placeNumber x_rules_places x_rules_firsts x_rules_wholes x_rules_taken x_rules_behinds x_now_kinds (fun x_steps_firsts_1 x_steps_loose_2 x_steps_onward_3 x_steps_takers_4 =>
    wp_X8_forget x_ways_areFound (fun x_ways_areFound_5 =>
    wp_X9_lineHasChanged x_now_length x_now_classes x_now_line x_steps_firsts_1 x_steps_loose_2 x_steps_onward_3 x_steps_takers_4 x_pieces_length x_pieces_bounds x_pieces_stands (fun x_pieces_length_6 x_pieces_bounds_7 x_pieces_stands_8 =>
    K x_steps_firsts_1 x_steps_loose_2 x_steps_onward_3 x_steps_takers_4 x_pieces_length_6 x_pieces_bounds_7 x_pieces_stands_8 x_ways_areFound_5)))

def lp_X9_layText_18 (x_text_length : Int32) (x_text_signs : Nat → Int32) (E59 : Int32 → Int32 → (Nat → Int32) → (Nat → Int32) → (Nat → Int32) → (Nat → Int32) → (Nat → Int32) → Int32 → (Nat → Int32) → (Nat → Int32) → (Nat → Int32) → Int32 → (Nat → Int32) → (Nat → Int32) → (Nat → Int32) → Prop) : Nat → Int32 → Int32 → Int32 → Int32 → (Nat → Int32) → (Nat → Int32) → (Nat → Int32) → (Nat → Int32) → (Nat → Int32) → Int32 → (Nat → Int32) → (Nat → Int32) → (Nat → Int32) → Int32 → (Nat → Int32) → (Nat → Int32) → (Nat → Int32) → Prop
  | 0, _, _, _, _, _, _, _, _, _, _, _, _, _, _, _, _, _ => False
  | n + 1, v1, v2, x_rules_number, x_rules_placeNumber, x_rules_places, x_rules_firsts, x_rules_wholes, x_rules_taken, x_rules_behinds, x_rules_parts_height, x_rules_parts_firsts, x_rules_parts_lasts, x_rules_parts_lacking, x_now_length, x_now_classes, x_now_kinds, x_now_line =>
    ((nI 200) ≤ v2 →
      E59 x_rules_number x_rules_placeNumber x_rules_places x_rules_firsts x_rules_wholes x_rules_taken x_rules_behinds x_rules_parts_height x_rules_parts_firsts x_rules_parts_lasts x_rules_parts_lacking x_now_length x_now_classes x_now_kinds x_now_line) ∧
    (¬ (nI 200) ≤ v2 →
      wp_X7_length x_text_length (fun r_31 =>
      (r_31 ≤ v1 →
        E59 x_rules_number x_rules_placeNumber x_rules_places x_rules_firsts x_rules_wholes x_rules_taken x_rules_behinds x_rules_parts_height x_rules_parts_firsts x_rules_parts_lasts x_rules_parts_lacking x_now_length x_now_classes x_now_kinds x_now_line) ∧
      (¬ r_31 ≤ v1 →
        wp_X7_tellItem x_text_length x_text_signs x_rules_number x_rules_placeNumber x_rules_places x_rules_firsts x_rules_wholes x_rules_taken x_rules_behinds x_rules_parts_height x_rules_parts_firsts x_rules_parts_lasts x_rules_parts_lacking x_now_length x_now_classes x_now_kinds x_now_line v1 (fun r_47 x_rules_number_32 x_rules_placeNumber_33 x_rules_places_34 x_rules_firsts_35 x_rules_wholes_36 x_rules_taken_37 x_rules_behinds_38 x_rules_parts_height_39 x_rules_parts_firsts_40 x_rules_parts_lasts_41 x_rules_parts_lacking_42 x_now_length_43 x_now_classes_44 x_now_kinds_45 x_now_line_46 =>
        ∀ v2_48 : Int32, v2_48 = v2 + (nI 1) →
        lp_X9_layText_18 x_text_length x_text_signs E59 n r_47 v2_48 x_rules_number_32 x_rules_placeNumber_33 x_rules_places_34 x_rules_firsts_35 x_rules_wholes_36 x_rules_taken_37 x_rules_behinds_38 x_rules_parts_height_39 x_rules_parts_firsts_40 x_rules_parts_lasts_41 x_rules_parts_lacking_42 x_now_length_43 x_now_classes_44 x_now_kinds_45 x_now_line_46))))
def wp_X9_layText (x_keptNumber : Int32) (x_text_length : Int32) (x_text_signs : Nat → Int32) (x_rules_number : Int32) (x_rules_placeNumber : Int32) (x_rules_places : Nat → Int32) (x_rules_firsts : Nat → Int32) (x_rules_wholes : Nat → Int32) (x_rules_taken : Nat → Int32) (x_rules_behinds : Nat → Int32) (x_rules_parts_height : Int32) (x_rules_parts_firsts : Nat → Int32) (x_rules_parts_lasts : Nat → Int32) (x_rules_parts_lacking : Nat → Int32) (x_now_length : Int32) (x_now_classes : Nat → Int32) (x_now_kinds : Nat → Int32) (x_now_line : Nat → Int32) (x_acts_number : Int32) (x_steps_firsts : Int32) (x_steps_loose : Int32) (x_steps_onward : Nat → Int32) (x_steps_takers : Nat → Int32) (x_pieces_length : Int32) (x_pieces_bounds : Int32) (x_pieces_stands : Nat → Int32) (x_ways_areFound : Int32) (K : Int32 → Int32 → Int32 → (Nat → Int32) → (Nat → Int32) → (Nat → Int32) → (Nat → Int32) → (Nat → Int32) → Int32 → (Nat → Int32) → (Nat → Int32) → (Nat → Int32) → Int32 → (Nat → Int32) → (Nat → Int32) → (Nat → Int32) → Int32 → Int32 → Int32 → (Nat → Int32) → (Nat → Int32) → Int32 → Int32 → (Nat → Int32) → Int32 → Prop) : Prop :=
    wp_X4_clear x_rules_number x_rules_placeNumber (fun x_rules_number_1 x_rules_placeNumber_2 =>
    wp_X6_clear x_now_length x_now_classes x_now_kinds (fun x_now_length_3 x_now_classes_4 x_now_kinds_5 =>
    ∀ E59_21 : Int32 → Int32 → (Nat → Int32) → (Nat → Int32) → (Nat → Int32) → (Nat → Int32) → (Nat → Int32) → Int32 → (Nat → Int32) → (Nat → Int32) → (Nat → Int32) → Int32 → (Nat → Int32) → (Nat → Int32) → (Nat → Int32) → Prop,
    (∀ (x_rules_number_6 : Int32) (x_rules_placeNumber_7 : Int32) (x_rules_places_8 : Nat → Int32) (x_rules_firsts_9 : Nat → Int32) (x_rules_wholes_10 : Nat → Int32) (x_rules_taken_11 : Nat → Int32) (x_rules_behinds_12 : Nat → Int32) (x_rules_parts_height_13 : Int32) (x_rules_parts_firsts_14 : Nat → Int32) (x_rules_parts_lasts_15 : Nat → Int32) (x_rules_parts_lacking_16 : Nat → Int32) (x_now_length_17 : Int32) (x_now_classes_18 : Nat → Int32) (x_now_kinds_19 : Nat → Int32) (x_now_line_20 : Nat → Int32), 
      (wp_X0_forget x_acts_number (fun x_acts_number_22 =>
      wp_X9_rulesHaveChanged x_rules_number_6 x_rules_placeNumber_7 x_rules_places_8 x_rules_firsts_9 x_rules_wholes_10 x_rules_taken_11 x_rules_behinds_12 x_now_length_17 x_now_classes_18 x_now_kinds_19 x_now_line_20 x_steps_firsts x_steps_loose x_steps_onward x_steps_takers x_pieces_length x_pieces_bounds x_pieces_stands x_ways_areFound (fun x_steps_firsts_23 x_steps_loose_24 x_steps_onward_25 x_steps_takers_26 x_pieces_length_27 x_pieces_bounds_28 x_pieces_stands_29 x_ways_areFound_30 =>
      K (nI 0) x_rules_number_6 x_rules_placeNumber_7 x_rules_places_8 x_rules_firsts_9 x_rules_wholes_10 x_rules_taken_11 x_rules_behinds_12 x_rules_parts_height_13 x_rules_parts_firsts_14 x_rules_parts_lasts_15 x_rules_parts_lacking_16 x_now_length_17 x_now_classes_18 x_now_kinds_19 x_now_line_20 x_acts_number_22 x_steps_firsts_23 x_steps_loose_24 x_steps_onward_25 x_steps_takers_26 x_pieces_length_27 x_pieces_bounds_28 x_pieces_stands_29 x_ways_areFound_30))) →
     E59_21 x_rules_number_6 x_rules_placeNumber_7 x_rules_places_8 x_rules_firsts_9 x_rules_wholes_10 x_rules_taken_11 x_rules_behinds_12 x_rules_parts_height_13 x_rules_parts_firsts_14 x_rules_parts_lasts_15 x_rules_parts_lacking_16 x_now_length_17 x_now_classes_18 x_now_kinds_19 x_now_line_20) →
    ∃ n : Nat, lp_X9_layText_18 x_text_length x_text_signs E59_21 n (nI 0) (nI 0) x_rules_number_1 x_rules_placeNumber_2 x_rules_places x_rules_firsts x_rules_wholes x_rules_taken x_rules_behinds x_rules_parts_height x_rules_parts_firsts x_rules_parts_lasts x_rules_parts_lacking x_now_length_3 x_now_classes_4 x_now_kinds_5 x_now_line))

def wp_X9_lay (x_keptNumber : Int32) (x_text_length : Int32) (x_text_rulesSeen : Int32) (x_text_placesSeen : Int32) (x_text_signs : Nat → Int32) (x_rules_number : Int32) (x_rules_placeNumber : Int32) (x_rules_places : Nat → Int32) (x_rules_firsts : Nat → Int32) (x_rules_wholes : Nat → Int32) (x_rules_taken : Nat → Int32) (x_rules_behinds : Nat → Int32) (x_rules_parts_height : Int32) (x_rules_parts_firsts : Nat → Int32) (x_rules_parts_lasts : Nat → Int32) (x_rules_parts_lacking : Nat → Int32) (x_now_length : Int32) (x_now_classes : Nat → Int32) (x_now_kinds : Nat → Int32) (x_now_line : Nat → Int32) (x_acts_number : Int32) (x_steps_firsts : Int32) (x_steps_loose : Int32) (x_steps_onward : Nat → Int32) (x_steps_takers : Nat → Int32) (x_pieces_length : Int32) (x_pieces_bounds : Int32) (x_pieces_stands : Nat → Int32) (x_ways_areFound : Int32) (K : Int32 → Int32 → Int32 → Int32 → Int32 → Int32 → (Nat → Int32) → (Nat → Int32) → (Nat → Int32) → (Nat → Int32) → (Nat → Int32) → Int32 → (Nat → Int32) → (Nat → Int32) → (Nat → Int32) → Int32 → (Nat → Int32) → (Nat → Int32) → (Nat → Int32) → Int32 → Int32 → Int32 → (Nat → Int32) → (Nat → Int32) → Int32 → Int32 → (Nat → Int32) → Int32 → Prop) : Prop :=
    wp_X7_firstFault x_text_length x_text_rulesSeen x_text_placesSeen x_text_signs (fun r_3 x_text_rulesSeen_1 x_text_placesSeen_2 =>
    (¬ r_3 = (-4) →
      K (-2) x_keptNumber x_text_rulesSeen_1 x_text_placesSeen_2 x_rules_number x_rules_placeNumber x_rules_places x_rules_firsts x_rules_wholes x_rules_taken x_rules_behinds x_rules_parts_height x_rules_parts_firsts x_rules_parts_lasts x_rules_parts_lacking x_now_length x_now_classes x_now_kinds x_now_line x_acts_number x_steps_firsts x_steps_loose x_steps_onward x_steps_takers x_pieces_length x_pieces_bounds x_pieces_stands x_ways_areFound) ∧
    (r_3 = (-4) →
      wp_X7_rulesSeen x_text_rulesSeen_1 (fun r_4 =>
      (¬ r_4 = 0 →
        wp_X9_layText x_keptNumber x_text_length x_text_signs x_rules_number x_rules_placeNumber x_rules_places x_rules_firsts x_rules_wholes x_rules_taken x_rules_behinds x_rules_parts_height x_rules_parts_firsts x_rules_parts_lasts x_rules_parts_lacking x_now_length x_now_classes x_now_kinds x_now_line x_acts_number x_steps_firsts x_steps_loose x_steps_onward x_steps_takers x_pieces_length x_pieces_bounds x_pieces_stands x_ways_areFound (fun x_keptNumber_5 x_rules_number_6 x_rules_placeNumber_7 x_rules_places_8 x_rules_firsts_9 x_rules_wholes_10 x_rules_taken_11 x_rules_behinds_12 x_rules_parts_height_13 x_rules_parts_firsts_14 x_rules_parts_lasts_15 x_rules_parts_lacking_16 x_now_length_17 x_now_classes_18 x_now_kinds_19 x_now_line_20 x_acts_number_21 x_steps_firsts_22 x_steps_loose_23 x_steps_onward_24 x_steps_takers_25 x_pieces_length_26 x_pieces_bounds_27 x_pieces_stands_28 x_ways_areFound_29 =>
        wp_X4_number x_rules_number_6 (fun r_30 =>
        K r_30 x_keptNumber_5 x_text_rulesSeen_1 x_text_placesSeen_2 x_rules_number_6 x_rules_placeNumber_7 x_rules_places_8 x_rules_firsts_9 x_rules_wholes_10 x_rules_taken_11 x_rules_behinds_12 x_rules_parts_height_13 x_rules_parts_firsts_14 x_rules_parts_lasts_15 x_rules_parts_lacking_16 x_now_length_17 x_now_classes_18 x_now_kinds_19 x_now_line_20 x_acts_number_21 x_steps_firsts_22 x_steps_loose_23 x_steps_onward_24 x_steps_takers_25 x_pieces_length_26 x_pieces_bounds_27 x_pieces_stands_28 x_ways_areFound_29))) ∧
      (r_4 = 0 →
        K (-2) x_keptNumber x_text_rulesSeen_1 x_text_placesSeen_2 x_rules_number x_rules_placeNumber x_rules_places x_rules_firsts x_rules_wholes x_rules_taken x_rules_behinds x_rules_parts_height x_rules_parts_firsts x_rules_parts_lasts x_rules_parts_lacking x_now_length x_now_classes x_now_kinds x_now_line x_acts_number x_steps_firsts x_steps_loose x_steps_onward x_steps_takers x_pieces_length x_pieces_bounds x_pieces_stands x_ways_areFound))))

def wp_X9_isRule (x_rules_number : Int32) (p1 : Int32) (K : Int32 → Prop) : Prop :=
    (p1 < 0 →
      K (nI 0)) ∧
    (¬ p1 < 0 →
      wp_X4_number x_rules_number (fun r_1 =>
      (r_1 ≤ p1 →
        K (nI 0)) ∧
      (¬ r_1 ≤ p1 →
        K (nI 1))))

def wp_X9_rule (x_rules_number : Int32) (x_rules_places : Nat → Int32) (x_rules_firsts : Nat → Int32) (x_rules_wholes : Nat → Int32) (x_now_kinds : Nat → Int32) (p1 : Int32) (p2 : Int32) (K : Int32 → Prop) : Prop :=
    wp_X9_isRule x_rules_number p1 (fun r_1 =>
    (r_1 = 0 →
      K (-1)) ∧
    (¬ r_1 = 0 →
      (p2 < 0 →
        K (-1)) ∧
      (¬ p2 < 0 →
        (p2 ≤ (nI 3) →
          (p2 = (nI 0) →
            wp_X6_kindOf x_now_kinds p1 (fun r_2 =>
            K r_2)) ∧
          (¬ p2 = (nI 0) →
            (p2 = (nI 1) →
              wp_X4_placesOf x_rules_number x_rules_places p1 (fun r_3 =>
              K r_3)) ∧
            (¬ p2 = (nI 1) →
              (p2 = (nI 2) →
                wp_X4_firstOf x_rules_number x_rules_firsts p1 (fun r_4 =>
                K r_4)) ∧
              (¬ p2 = (nI 2) →
                wp_X4_wholeOf x_rules_number x_rules_wholes p1 (fun r_5 =>
                K r_5))))) ∧
        (¬ p2 ≤ (nI 3) →
          K (-1)))))

def wp_X9_kind (x_now_classes : Nat → Int32) (p1 : Int32) (K : Int32 → Prop) : Prop :=
    wp_X9_isLetter p1 (fun r_1 =>
    (r_1 = 0 →
      K (-1)) ∧
    (¬ r_1 = 0 →
      wp_X6_classOf x_now_classes p1 (fun r_2 =>
      K r_2)))

def wp_X9_isPlaceOfLine (x_now_length : Int32) (p1 : Int32) (K : Int32 → Prop) : Prop :=
    (p1 < 0 →
      K (nI 0)) ∧
    (¬ p1 < 0 →
      wp_X6_length x_now_length (fun r_1 =>
      (r_1 < p1 →
        K (nI 0)) ∧
      (¬ r_1 < p1 →
        K (nI 1))))

def wp_X9_letter (x_now_length : Int32) (x_now_line : Nat → Int32) (p1 : Int32) (K : Int32 → Prop) : Prop :=
    wp_X9_isPlaceOfLine x_now_length p1 (fun r_1 =>
    (¬ r_1 = 0 →
      wp_X6_length x_now_length (fun r_2 =>
      (¬ p1 = r_2 →
        wp_X6_letterAt x_now_length x_now_line p1 (fun r_3 =>
        K r_3)) ∧
      (p1 = r_2 →
        K (-4)))) ∧
    (r_1 = 0 →
      K (-1)))

def wp_X0_dropOldest (x_number : Int32) (x_acts : Nat → Int32) (x_wheres : Nat → Int32) (x_befores : Nat → Int32) (K : Int32 → (Nat → Int32) → (Nat → Int32) → (Nat → Int32) → Prop) : Prop :=
    ¬ (nI 1) < 0 ∧ ¬ (nI 0) < 0 ∧ ¬ (nI 7) < 0 ∧ (nI 1).toNatClampNeg + (nI 7).toNatClampNeg ≤ 8 ∧ (nI 0).toNatClampNeg + (nI 7).toNatClampNeg ≤ 8 ∧
    ∀ x_acts_1 : Nat → Int32, x_acts_1 = va_cpy x_acts x_acts (nI 1).toNatClampNeg (nI 0).toNatClampNeg (nI 7).toNatClampNeg →
    ¬ (nI 1) < 0 ∧ ¬ (nI 0) < 0 ∧ ¬ (nI 7) < 0 ∧ (nI 1).toNatClampNeg + (nI 7).toNatClampNeg ≤ 8 ∧ (nI 0).toNatClampNeg + (nI 7).toNatClampNeg ≤ 8 ∧
    ∀ x_wheres_2 : Nat → Int32, x_wheres_2 = va_cpy x_wheres x_wheres (nI 1).toNatClampNeg (nI 0).toNatClampNeg (nI 7).toNatClampNeg →
    ¬ (nI 1) < 0 ∧ ¬ (nI 0) < 0 ∧ ¬ (nI 7) < 0 ∧ (nI 1).toNatClampNeg + (nI 7).toNatClampNeg ≤ 8 ∧ (nI 0).toNatClampNeg + (nI 7).toNatClampNeg ≤ 8 ∧
    ∀ x_befores_3 : Nat → Int32, x_befores_3 = va_cpy x_befores x_befores (nI 1).toNatClampNeg (nI 0).toNatClampNeg (nI 7).toNatClampNeg →
    K (nI 7) x_acts_1 x_wheres_2 x_befores_3

def wp_X0_note (x_number : Int32) (x_acts : Nat → Int32) (x_wheres : Nat → Int32) (x_befores : Nat → Int32) (p1 : Int32) (p2 : Int32) (p3 : Int32) (K : Int32 → (Nat → Int32) → (Nat → Int32) → (Nat → Int32) → Prop) : Prop :=
    ∀ J13_5 : Int32 → (Nat → Int32) → (Nat → Int32) → (Nat → Int32) → Prop,
    (∀ (x_number_1 : Int32) (x_acts_2 : Nat → Int32) (x_wheres_3 : Nat → Int32) (x_befores_4 : Nat → Int32), 
      (vp_in x_number_1 8 ∧
      ∀ x_acts_6 : Nat → Int32, x_acts_6 = upd x_acts_2 x_number_1.toNatClampNeg p1 →
      vp_in x_number_1 8 ∧
      ∀ x_wheres_7 : Nat → Int32, x_wheres_7 = upd x_wheres_3 x_number_1.toNatClampNeg p2 →
      vp_in x_number_1 8 ∧
      ∀ x_befores_8 : Nat → Int32, x_befores_8 = upd x_befores_4 x_number_1.toNatClampNeg p3 →
      ∀ x_number_9 : Int32, x_number_9 = x_number_1 + (nI 1) →
      K x_number_9 x_acts_6 x_wheres_7 x_befores_8) →
     J13_5 x_number_1 x_acts_2 x_wheres_3 x_befores_4) →
    (x_number < (nI 8) →
        J13_5 x_number x_acts x_wheres x_befores) ∧
      (¬ x_number < (nI 8) →
        wp_X0_dropOldest x_number x_acts x_wheres x_befores (fun x_number_10 x_acts_11 x_wheres_12 x_befores_13 =>
        J13_5 x_number_10 x_acts_11 x_wheres_12 x_befores_13))

def wp_X9_insert (x_now_length : Int32) (x_now_classes : Nat → Int32) (x_now_line : Nat → Int32) (x_acts_number : Int32) (x_acts_acts : Nat → Int32) (x_acts_wheres : Nat → Int32) (x_acts_befores : Nat → Int32) (x_steps_firsts : Int32) (x_steps_loose : Int32) (x_steps_onward : Nat → Int32) (x_steps_takers : Nat → Int32) (x_pieces_length : Int32) (x_pieces_bounds : Int32) (x_pieces_stands : Nat → Int32) (p1 : Int32) (p2 : Int32) (K : Int32 → Int32 → (Nat → Int32) → Int32 → (Nat → Int32) → (Nat → Int32) → (Nat → Int32) → Int32 → Int32 → (Nat → Int32) → Prop) : Prop :=
    wp_X9_isPlaceOfLine x_now_length p1 (fun r_1 =>
    (r_1 = 0 →
      K (-1) x_now_length x_now_line x_acts_number x_acts_acts x_acts_wheres x_acts_befores x_pieces_length x_pieces_bounds x_pieces_stands) ∧
    (¬ r_1 = 0 →
      wp_X9_isLetter p2 (fun r_2 =>
      (¬ r_2 = 0 →
        wp_X6_length x_now_length (fun r_3 =>
        (r_3 < (nI 30) →
          wp_X6_putIn x_now_length x_now_line p1 p2 (fun x_now_length_4 x_now_line_5 =>
          wp_X0_note x_acts_number x_acts_acts x_acts_wheres x_acts_befores (nI 0) p1 p2 (fun x_acts_number_6 x_acts_acts_7 x_acts_wheres_8 x_acts_befores_9 =>
          wp_X9_lineHasChanged x_now_length_4 x_now_classes x_now_line_5 x_steps_firsts x_steps_loose x_steps_onward x_steps_takers x_pieces_length x_pieces_bounds x_pieces_stands (fun x_pieces_length_10 x_pieces_bounds_11 x_pieces_stands_12 =>
          wp_X6_length x_now_length_4 (fun r_13 =>
          K r_13 x_now_length_4 x_now_line_5 x_acts_number_6 x_acts_acts_7 x_acts_wheres_8 x_acts_befores_9 x_pieces_length_10 x_pieces_bounds_11 x_pieces_stands_12))))) ∧
        (¬ r_3 < (nI 30) →
          K (-3) x_now_length x_now_line x_acts_number x_acts_acts x_acts_wheres x_acts_befores x_pieces_length x_pieces_bounds x_pieces_stands))) ∧
      (r_2 = 0 →
        K (-1) x_now_length x_now_line x_acts_number x_acts_acts x_acts_wheres x_acts_befores x_pieces_length x_pieces_bounds x_pieces_stands))))

def lp_X6_takeOut_25 (x_length : Int32) (E53 : (Nat → Int32) → Prop) : Nat → Int32 → (Nat → Int32) → Prop
  | 0, _, _ => False
  | n + 1, v2, x_line =>
    (x_length ≤ v2 →
      E53 x_line) ∧
    (¬ x_length ≤ v2 →
      vp_in (v2 + (nI 1)) 30 ∧
      ∀ t_4 : Int32, t_4 = x_line (v2 + (nI 1)).toNatClampNeg →
      vp_in v2 30 ∧
      ∀ x_line_5 : Nat → Int32, x_line_5 = upd x_line v2.toNatClampNeg t_4 →
      ∀ v2_6 : Int32, v2_6 = v2 + (nI 1) →
      lp_X6_takeOut_25 x_length E53 n v2_6 x_line_5)
def wp_X6_takeOut (x_length : Int32) (x_line : Nat → Int32) (p1 : Int32) (K : Int32 → (Nat → Int32) → Prop) : Prop :=
    (p1 < 0 →
      K x_length x_line) ∧
    (¬ p1 < 0 →
      (p1 < x_length →
        ∀ x_length_1 : Int32, x_length_1 = x_length - (nI 1) →
        ∀ E53_3 : (Nat → Int32) → Prop,
        (∀ (x_line_2 : Nat → Int32), 
          (K x_length_1 x_line_2) →
         E53_3 x_line_2) →
        ∃ n : Nat, lp_X6_takeOut_25 x_length_1 E53_3 n p1 x_line) ∧
      (¬ p1 < x_length →
        K x_length x_line))

def wp_X9_erase (x_now_length : Int32) (x_now_classes : Nat → Int32) (x_now_line : Nat → Int32) (x_acts_number : Int32) (x_acts_acts : Nat → Int32) (x_acts_wheres : Nat → Int32) (x_acts_befores : Nat → Int32) (x_steps_firsts : Int32) (x_steps_loose : Int32) (x_steps_onward : Nat → Int32) (x_steps_takers : Nat → Int32) (x_pieces_length : Int32) (x_pieces_bounds : Int32) (x_pieces_stands : Nat → Int32) (p1 : Int32) (K : Int32 → Int32 → (Nat → Int32) → Int32 → (Nat → Int32) → (Nat → Int32) → (Nat → Int32) → Int32 → Int32 → (Nat → Int32) → Prop) : Prop :=
    (p1 < 0 →
      K (-1) x_now_length x_now_line x_acts_number x_acts_acts x_acts_wheres x_acts_befores x_pieces_length x_pieces_bounds x_pieces_stands) ∧
    (¬ p1 < 0 →
      wp_X6_length x_now_length (fun r_1 =>
      (p1 < r_1 →
        wp_X6_letterAt x_now_length x_now_line p1 (fun r_2 =>
        wp_X6_takeOut x_now_length x_now_line p1 (fun x_now_length_3 x_now_line_4 =>
        wp_X0_note x_acts_number x_acts_acts x_acts_wheres x_acts_befores (nI 1) p1 r_2 (fun x_acts_number_5 x_acts_acts_6 x_acts_wheres_7 x_acts_befores_8 =>
        wp_X9_lineHasChanged x_now_length_3 x_now_classes x_now_line_4 x_steps_firsts x_steps_loose x_steps_onward x_steps_takers x_pieces_length x_pieces_bounds x_pieces_stands (fun x_pieces_length_9 x_pieces_bounds_10 x_pieces_stands_11 =>
        K r_2 x_now_length_3 x_now_line_4 x_acts_number_5 x_acts_acts_6 x_acts_wheres_7 x_acts_befores_8 x_pieces_length_9 x_pieces_bounds_10 x_pieces_stands_11))))) ∧
      (¬ p1 < r_1 →
        K (-1) x_now_length x_now_line x_acts_number x_acts_acts x_acts_wheres x_acts_befores x_pieces_length x_pieces_bounds x_pieces_stands)))

def wp_X9_tell (x_now_length : Int32) (x_now_classes : Nat → Int32) (x_now_line : Nat → Int32) (x_acts_number : Int32) (x_acts_acts : Nat → Int32) (x_acts_wheres : Nat → Int32) (x_acts_befores : Nat → Int32) (x_steps_firsts : Int32) (x_steps_loose : Int32) (x_steps_onward : Nat → Int32) (x_steps_takers : Nat → Int32) (x_pieces_length : Int32) (x_pieces_bounds : Int32) (x_pieces_stands : Nat → Int32) (p1 : Int32) (p2 : Int32) (K : Int32 → (Nat → Int32) → Int32 → (Nat → Int32) → (Nat → Int32) → (Nat → Int32) → Int32 → Int32 → (Nat → Int32) → Prop) : Prop :=
    wp_X9_isLetter p1 (fun r_1 =>
    (r_1 = 0 →
      K (-1) x_now_classes x_acts_number x_acts_acts x_acts_wheres x_acts_befores x_pieces_length x_pieces_bounds x_pieces_stands) ∧
    (¬ r_1 = 0 →
      wp_X9_isClass p2 (fun r_2 =>
      (¬ r_2 = 0 →
        wp_X6_classOf x_now_classes p1 (fun r_3 =>
        (¬ r_3 = p2 →
          wp_X6_setClass x_now_classes p1 p2 (fun x_now_classes_4 =>
          wp_X0_note x_acts_number x_acts_acts x_acts_wheres x_acts_befores (nI 2) p1 r_3 (fun x_acts_number_5 x_acts_acts_6 x_acts_wheres_7 x_acts_befores_8 =>
          wp_X9_lineHasChanged x_now_length x_now_classes_4 x_now_line x_steps_firsts x_steps_loose x_steps_onward x_steps_takers x_pieces_length x_pieces_bounds x_pieces_stands (fun x_pieces_length_9 x_pieces_bounds_10 x_pieces_stands_11 =>
          K r_3 x_now_classes_4 x_acts_number_5 x_acts_acts_6 x_acts_wheres_7 x_acts_befores_8 x_pieces_length_9 x_pieces_bounds_10 x_pieces_stands_11)))) ∧
        (r_3 = p2 →
          K (-2) x_now_classes x_acts_number x_acts_acts x_acts_wheres x_acts_befores x_pieces_length x_pieces_bounds x_pieces_stands))) ∧
      (r_2 = 0 →
        K (-1) x_now_classes x_acts_number x_acts_acts x_acts_wheres x_acts_befores x_pieces_length x_pieces_bounds x_pieces_stands))))

def wp_X9_rename (x_rules_number : Int32) (x_rules_placeNumber : Int32) (x_rules_places : Nat → Int32) (x_rules_firsts : Nat → Int32) (x_rules_wholes : Nat → Int32) (x_rules_taken : Nat → Int32) (x_rules_behinds : Nat → Int32) (x_now_length : Int32) (x_now_classes : Nat → Int32) (x_now_kinds : Nat → Int32) (x_now_line : Nat → Int32) (x_acts_number : Int32) (x_acts_acts : Nat → Int32) (x_acts_wheres : Nat → Int32) (x_acts_befores : Nat → Int32) (x_steps_firsts : Int32) (x_steps_loose : Int32) (x_steps_onward : Nat → Int32) (x_steps_takers : Nat → Int32) (x_pieces_length : Int32) (x_pieces_bounds : Int32) (x_pieces_stands : Nat → Int32) (x_ways_areFound : Int32) (p1 : Int32) (p2 : Int32) (K : Int32 → (Nat → Int32) → Int32 → (Nat → Int32) → (Nat → Int32) → (Nat → Int32) → Int32 → Int32 → (Nat → Int32) → (Nat → Int32) → Int32 → Int32 → (Nat → Int32) → Int32 → Prop) : Prop :=
    wp_X9_isRule x_rules_number p1 (fun r_1 =>
    (r_1 = 0 →
      K (-1) x_now_kinds x_acts_number x_acts_acts x_acts_wheres x_acts_befores x_steps_firsts x_steps_loose x_steps_onward x_steps_takers x_pieces_length x_pieces_bounds x_pieces_stands x_ways_areFound) ∧
    (¬ r_1 = 0 →
      (p2 < 0 →
        K (-1) x_now_kinds x_acts_number x_acts_acts x_acts_wheres x_acts_befores x_steps_firsts x_steps_loose x_steps_onward x_steps_takers x_pieces_length x_pieces_bounds x_pieces_stands x_ways_areFound) ∧
      (¬ p2 < 0 →
        (p2 < (nI 4) →
          wp_X6_kindOf x_now_kinds p1 (fun r_2 =>
          (¬ r_2 = p2 →
            wp_X6_setKind x_now_kinds p1 p2 (fun x_now_kinds_3 =>
            wp_X0_note x_acts_number x_acts_acts x_acts_wheres x_acts_befores (nI 3) p1 r_2 (fun x_acts_number_4 x_acts_acts_5 x_acts_wheres_6 x_acts_befores_7 =>
            wp_X9_rulesHaveChanged x_rules_number x_rules_placeNumber x_rules_places x_rules_firsts x_rules_wholes x_rules_taken x_rules_behinds x_now_length x_now_classes x_now_kinds_3 x_now_line x_steps_firsts x_steps_loose x_steps_onward x_steps_takers x_pieces_length x_pieces_bounds x_pieces_stands x_ways_areFound (fun x_steps_firsts_8 x_steps_loose_9 x_steps_onward_10 x_steps_takers_11 x_pieces_length_12 x_pieces_bounds_13 x_pieces_stands_14 x_ways_areFound_15 =>
            K r_2 x_now_kinds_3 x_acts_number_4 x_acts_acts_5 x_acts_wheres_6 x_acts_befores_7 x_steps_firsts_8 x_steps_loose_9 x_steps_onward_10 x_steps_takers_11 x_pieces_length_12 x_pieces_bounds_13 x_pieces_stands_14 x_ways_areFound_15)))) ∧
          (r_2 = p2 →
            K (-2) x_now_kinds x_acts_number x_acts_acts x_acts_wheres x_acts_befores x_steps_firsts x_steps_loose x_steps_onward x_steps_takers x_pieces_length x_pieces_bounds x_pieces_stands x_ways_areFound))) ∧
        (¬ p2 < (nI 4) →
          K (-1) x_now_kinds x_acts_number x_acts_acts x_acts_wheres x_acts_befores x_steps_firsts x_steps_loose x_steps_onward x_steps_takers x_pieces_length x_pieces_bounds x_pieces_stands x_ways_areFound))))

def wp_X0_number (x_number : Int32) (K : Int32 → Prop) : Prop :=
    K x_number

def wp_X0_takeBackFrom (x_number : Int32) (x_acts : Nat → Int32) (x_wheres : Nat → Int32) (x_befores : Nat → Int32) (y_length : Int32) (y_classes : Nat → Int32) (y_kinds : Nat → Int32) (y_line : Nat → Int32) (K : Int32 → Int32 → Int32 → (Nat → Int32) → (Nat → Int32) → (Nat → Int32) → Prop) : Prop :=
    (0 < x_number →
      ∀ x_number_1 : Int32, x_number_1 = x_number - (nI 1) →
      vp_in x_number_1 8 ∧
      ∀ v2_2 : Int32, v2_2 = x_wheres x_number_1.toNatClampNeg →
      vp_in x_number_1 8 ∧
      ∀ v3_3 : Int32, v3_3 = x_befores x_number_1.toNatClampNeg →
      vp_in x_number_1 8 ∧
      ∀ sw_4 : Int32, sw_4 = x_acts x_number_1.toNatClampNeg →
      (sw_4 = (nI 0) →
        wp_X6_takeOut y_length y_line v2_2 (fun y_length_5 y_line_6 =>
        K (nI 0) x_number_1 y_length_5 y_classes y_kinds y_line_6)) ∧
      (¬ sw_4 = (nI 0) →
        (sw_4 = (nI 1) →
          wp_X6_putIn y_length y_line v2_2 v3_3 (fun y_length_7 y_line_8 =>
          K (nI 0) x_number_1 y_length_7 y_classes y_kinds y_line_8)) ∧
        (¬ sw_4 = (nI 1) →
          (sw_4 = (nI 2) →
            wp_X6_setClass y_classes v2_2 v3_3 (fun y_classes_9 =>
            K (nI 0) x_number_1 y_length y_classes_9 y_kinds y_line)) ∧
          (¬ sw_4 = (nI 2) →
            wp_X6_setKind y_kinds v2_2 v3_3 (fun y_kinds_10 =>
            K (nI 1) x_number_1 y_length y_classes y_kinds_10 y_line))))) ∧
    (¬ 0 < x_number →
      K (nI 0) x_number y_length y_classes y_kinds y_line)

def wp_X9_undo (x_rules_number : Int32) (x_rules_placeNumber : Int32) (x_rules_places : Nat → Int32) (x_rules_firsts : Nat → Int32) (x_rules_wholes : Nat → Int32) (x_rules_taken : Nat → Int32) (x_rules_behinds : Nat → Int32) (x_now_length : Int32) (x_now_classes : Nat → Int32) (x_now_kinds : Nat → Int32) (x_now_line : Nat → Int32) (x_acts_number : Int32) (x_acts_acts : Nat → Int32) (x_acts_wheres : Nat → Int32) (x_acts_befores : Nat → Int32) (x_steps_firsts : Int32) (x_steps_loose : Int32) (x_steps_onward : Nat → Int32) (x_steps_takers : Nat → Int32) (x_pieces_length : Int32) (x_pieces_bounds : Int32) (x_pieces_stands : Nat → Int32) (x_ways_areFound : Int32) (K : Int32 → Int32 → (Nat → Int32) → (Nat → Int32) → (Nat → Int32) → Int32 → Int32 → Int32 → (Nat → Int32) → (Nat → Int32) → Int32 → Int32 → (Nat → Int32) → Int32 → Prop) : Prop :=
    wp_X0_number x_acts_number (fun r_1 =>
    (¬ r_1 = 0 →
      wp_X0_takeBackFrom x_acts_number x_acts_acts x_acts_wheres x_acts_befores x_now_length x_now_classes x_now_kinds x_now_line (fun r_7 x_acts_number_2 x_now_length_3 x_now_classes_4 x_now_kinds_5 x_now_line_6 =>
      ∀ J38_16 : Int32 → Int32 → (Nat → Int32) → (Nat → Int32) → Int32 → Int32 → (Nat → Int32) → Int32 → Prop,
      (∀ (x_steps_firsts_8 : Int32) (x_steps_loose_9 : Int32) (x_steps_onward_10 : Nat → Int32) (x_steps_takers_11 : Nat → Int32) (x_pieces_length_12 : Int32) (x_pieces_bounds_13 : Int32) (x_pieces_stands_14 : Nat → Int32) (x_ways_areFound_15 : Int32), 
        (wp_X0_number x_acts_number_2 (fun r_17 =>
        K r_17 x_now_length_3 x_now_classes_4 x_now_kinds_5 x_now_line_6 x_acts_number_2 x_steps_firsts_8 x_steps_loose_9 x_steps_onward_10 x_steps_takers_11 x_pieces_length_12 x_pieces_bounds_13 x_pieces_stands_14 x_ways_areFound_15)) →
       J38_16 x_steps_firsts_8 x_steps_loose_9 x_steps_onward_10 x_steps_takers_11 x_pieces_length_12 x_pieces_bounds_13 x_pieces_stands_14 x_ways_areFound_15) →
      (r_7 = 0 →
          wp_X9_lineHasChanged x_now_length_3 x_now_classes_4 x_now_line_6 x_steps_firsts x_steps_loose x_steps_onward x_steps_takers x_pieces_length x_pieces_bounds x_pieces_stands (fun x_pieces_length_18 x_pieces_bounds_19 x_pieces_stands_20 =>
          J38_16 x_steps_firsts x_steps_loose x_steps_onward x_steps_takers x_pieces_length_18 x_pieces_bounds_19 x_pieces_stands_20 x_ways_areFound)) ∧
        (¬ r_7 = 0 →
          wp_X9_rulesHaveChanged x_rules_number x_rules_placeNumber x_rules_places x_rules_firsts x_rules_wholes x_rules_taken x_rules_behinds x_now_length_3 x_now_classes_4 x_now_kinds_5 x_now_line_6 x_steps_firsts x_steps_loose x_steps_onward x_steps_takers x_pieces_length x_pieces_bounds x_pieces_stands x_ways_areFound (fun x_steps_firsts_21 x_steps_loose_22 x_steps_onward_23 x_steps_takers_24 x_pieces_length_25 x_pieces_bounds_26 x_pieces_stands_27 x_ways_areFound_28 =>
          J38_16 x_steps_firsts_21 x_steps_loose_22 x_steps_onward_23 x_steps_takers_24 x_pieces_length_25 x_pieces_bounds_26 x_pieces_stands_27 x_ways_areFound_28)))) ∧
    (r_1 = 0 →
      K (-2) x_now_length x_now_classes x_now_kinds x_now_line x_acts_number x_steps_firsts x_steps_loose x_steps_onward x_steps_takers x_pieces_length x_pieces_bounds x_pieces_stands x_ways_areFound))

def wp_X3_hasBound (x_bounds : Int32) (p1 : Int32) (K : Int32 → Prop) : Prop :=
    (((x_bounds >>> (p1 &&& 31)) &&& (nI 1)) = 0 →
      K (nI 0)) ∧
    (¬ ((x_bounds >>> (p1 &&& 31)) &&& (nI 1)) = 0 →
      K (nI 1))

def wp_X9_isBoundary (x_now_length : Int32) (x_pieces_bounds : Int32) (p1 : Int32) (K : Int32 → Prop) : Prop :=
    wp_X9_isPlaceOfLine x_now_length p1 (fun r_1 =>
    (¬ r_1 = 0 →
      wp_X3_hasBound x_pieces_bounds p1 (fun r_2 =>
      (r_2 = 0 →
        K (nI 0)) ∧
      (¬ r_2 = 0 →
        K (nI 1)))) ∧
    (r_1 = 0 →
      K (-1)))

def wp_X3_standAt (x_length : Int32) (x_stands : Nat → Int32) (p1 : Int32) (K : Int32 → Prop) : Prop :=
    (p1 < 0 →
      K (nI 0)) ∧
    (¬ p1 < 0 →
      (x_length < p1 →
        K (nI 0)) ∧
      (¬ x_length < p1 →
        vp_in p1 31 ∧
        K (x_stands p1.toNatClampNeg)))

def wp_X9_stand (x_now_length : Int32) (x_pieces_length : Int32) (x_pieces_stands : Nat → Int32) (p1 : Int32) (K : Int32 → Prop) : Prop :=
    wp_X9_isPlaceOfLine x_now_length p1 (fun r_1 =>
    (¬ r_1 = 0 →
      (¬ p1 = 0 →
        wp_X3_standAt x_pieces_length x_pieces_stands p1 (fun r_2 =>
        K r_2)) ∧
      (p1 = 0 →
        K (-4))) ∧
    (r_1 = 0 →
      K (-1)))

def wp_J6_bitCount_0f7a4 (p0 : Int32) (K : Int32 → Prop) : Prop :=
    ∀ v0_1 : Int32, v0_1 = p0 - (((p0.toUInt32 >>> ((nI 1).toUInt32 &&& Int32.toUInt32 31)).toInt32) &&& (nI 1431655765)) →
    ∀ v0_2 : Int32, v0_2 = (v0_1 &&& (nI 858993459)) + (((v0_1.toUInt32 >>> ((nI 2).toUInt32 &&& Int32.toUInt32 31)).toInt32) &&& (nI 858993459)) →
    ∀ v0_3 : Int32, v0_3 = (v0_2 + ((v0_2.toUInt32 >>> ((nI 4).toUInt32 &&& Int32.toUInt32 31)).toInt32)) &&& (nI 252645135) →
    ∀ v0_4 : Int32, v0_4 = v0_3 + ((v0_3.toUInt32 >>> ((nI 8).toUInt32 &&& Int32.toUInt32 31)).toInt32) →
    ∀ v0_5 : Int32, v0_5 = v0_4 + ((v0_4.toUInt32 >>> ((nI 16).toUInt32 &&& Int32.toUInt32 31)).toInt32) →
    K (v0_5 &&& (nI 63))

def wp_X3_number (x_bounds : Int32) (K : Int32 → Prop) : Prop :=
    wp_J6_bitCount_0f7a4 x_bounds (fun r_1 =>
    K (r_1 - (nI 1)))

def wp_X9_count (x_keptNumber : Int32) (x_text_length : Int32) (x_rules_number : Int32) (x_rules_placeNumber : Int32) (x_now_length : Int32) (x_acts_number : Int32) (x_pieces_bounds : Int32) (p1 : Int32) (K : Int32 → Prop) : Prop :=
    (p1 = (nI 0) →
      wp_X4_number x_rules_number (fun r_1 =>
      K r_1)) ∧
    (¬ p1 = (nI 0) →
      (p1 = (nI 1) →
        wp_X4_placeNumber x_rules_placeNumber (fun r_2 =>
        K r_2)) ∧
      (¬ p1 = (nI 1) →
        (p1 = (nI 2) →
          wp_X6_length x_now_length (fun r_3 =>
          K r_3)) ∧
        (¬ p1 = (nI 2) →
          (p1 = (nI 3) →
            wp_X3_number x_pieces_bounds (fun r_4 =>
            K r_4)) ∧
          (¬ p1 = (nI 3) →
            (p1 = (nI 4) →
              wp_X0_number x_acts_number (fun r_5 =>
              K r_5)) ∧
            (¬ p1 = (nI 4) →
              (p1 = (nI 5) →
                K x_keptNumber) ∧
              (¬ p1 = (nI 5) →
                (p1 = (nI 6) →
                  wp_X7_length x_text_length (fun r_6 =>
                  K r_6)) ∧
                (¬ p1 = (nI 6) →
                  K (-1))))))))
