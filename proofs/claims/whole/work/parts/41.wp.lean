def wp_X7_length (x_length : Int32) (K : Int32 → Prop) : Prop :=
    K x_length

def wp_X7_add (x_length : Int32) (x_signs : Nat → Int32) (p1 : Int32) (K : Int32 → (Nat → Int32) → Prop) : Prop :=
    ((nI 200) ≤ x_length →
      K x_length x_signs) ∧
    (¬ (nI 200) ≤ x_length →
      vp_in x_length 200 ∧
      ∀ x_signs_1 : Nat → Int32, x_signs_1 = upd x_signs x_length.toNatClampNeg p1 →
      ∀ x_length_2 : Int32, x_length_2 = x_length + (nI 1) →
      K x_length_2 x_signs_1)

def wp_X9_write (x_text_length : Int32) (x_text_signs : Nat → Int32) (p1 : Int32) (K : Int32 → Int32 → (Nat → Int32) → Prop) : Prop :=
    (p1 < (nI 32) →
      K (-1) x_text_length x_text_signs) ∧
    (¬ p1 < (nI 32) →
      (p1 ≤ (nI 126) →
        wp_X7_length x_text_length (fun r_1 =>
        (r_1 < (nI 200) →
          wp_X7_add x_text_length x_text_signs p1 (fun x_text_length_2 x_text_signs_3 =>
          wp_X7_length x_text_length_2 (fun r_4 =>
          K r_4 x_text_length_2 x_text_signs_3))) ∧
        (¬ r_1 < (nI 200) →
          K (-3) x_text_length x_text_signs))) ∧
      (¬ p1 ≤ (nI 126) →
        K (-1) x_text_length x_text_signs))

def wp_X7_clear (x_length : Int32) (K : Int32 → Prop) : Prop :=
    K (nI 0)

def wp_X9_wipe (x_text_length : Int32) (K : Int32 → Int32 → Prop) : Prop :=
    wp_X7_length x_text_length (fun r_1 =>
    wp_X7_clear x_text_length (fun x_text_length_2 =>
    K r_1 x_text_length_2))

def wp_X7_signAt (x_length : Int32) (x_signs : Nat → Int32) (p1 : Int32) (K : Int32 → Prop) : Prop :=
    (p1 < 0 →
      K (nI 0)) ∧
    (¬ p1 < 0 →
      (x_length ≤ p1 →
        K (nI 0)) ∧
      (¬ x_length ≤ p1 →
        vp_in p1 200 ∧
        K (x_signs p1.toNatClampNeg)))

def lp_X7_endOfItem_2 (x_length : Int32) (x_signs : Nat → Int32) (E20 : Int32 → Prop) (E28 : Prop) : Nat → Int32 → Prop
  | 0, _ => False
  | n + 1, v2 =>
    (x_length ≤ v2 →
      E28) ∧
    (¬ x_length ≤ v2 →
      wp_X7_signAt x_length x_signs v2 (fun r_4 =>
      (¬ r_4 = (nI 59) →
        ∀ v2_5 : Int32, v2_5 = v2 + (nI 1) →
        lp_X7_endOfItem_2 x_length x_signs E20 E28 n v2_5) ∧
      (r_4 = (nI 59) →
        E20 v2)))
def wp_X7_endOfItem (x_length : Int32) (x_signs : Nat → Int32) (p1 : Int32) (K : Int32 → Prop) : Prop :=
    ∀ E20_2 : Int32 → Prop,
    (∀ (v2_1 : Int32), 
      (K v2_1) →
     E20_2 v2_1) →
    ∀ E28_3 : Prop,
      (
        (K (-1)) →
       E28_3) →
      ∃ n : Nat, lp_X7_endOfItem_2 x_length x_signs E20_2 E28_3 n p1

def wp_X9_isLetter (p0 : Int32) (K : Int32 → Prop) : Prop :=
    (p0 < 0 →
      K (nI 0)) ∧
    (¬ p0 < 0 →
      ((nI 26) ≤ p0 →
        K (nI 0)) ∧
      (¬ (nI 26) ≤ p0 →
        K (nI 1)))

def lp_X7_areLetters_3 (x_length : Int32) (x_signs : Nat → Int32) (q2 : Int32) (E24 : Prop) (E32 : Prop) : Nat → Int32 → Prop
  | 0, _ => False
  | n + 1, v5 =>
    (q2 ≤ v5 →
      E32) ∧
    (¬ q2 ≤ v5 →
      wp_X7_signAt x_length x_signs v5 (fun r_3 =>
      wp_X9_isLetter (r_3 - (nI 97)) (fun r_4 =>
      (¬ r_4 = 0 →
        ∀ v5_5 : Int32, v5_5 = v5 + (nI 1) →
        lp_X7_areLetters_3 x_length x_signs q2 E24 E32 n v5_5) ∧
      (r_4 = 0 →
        E24))))
def wp_X7_areLetters (x_length : Int32) (x_signs : Nat → Int32) (p1 : Int32) (p2 : Int32) (p3 : Int32) (p4 : Int32) (K : Int32 → Prop) : Prop :=
    ∀ E24_1 : Prop,
    (
      (K (nI 0)) →
     E24_1) →
    ∀ E32_2 : Prop,
      (
        (((p2 - p1) < p3 →
          K (nI 0)) ∧
        (¬ (p2 - p1) < p3 →
          (p4 < (p2 - p1) →
            K (nI 0)) ∧
          (¬ p4 < (p2 - p1) →
            K (nI 1)))) →
       E32_2) →
      ∃ n : Nat, lp_X7_areLetters_3 x_length x_signs p2 E24_1 E32_2 n p1

def wp_X7_hasFigure (x_length : Int32) (x_signs : Nat → Int32) (p1 : Int32) (p2 : Int32) (p3 : Int32) (K : Int32 → Prop) : Prop :=
    wp_X7_signAt x_length x_signs (p1 + (nI 1)) (fun r_1 =>
    ∀ v4_2 : Int32, v4_2 = r_1 - (nI 48) →
    (p2 ≤ (p1 + (nI 2)) →
      K (nI 0)) ∧
    (¬ p2 ≤ (p1 + (nI 2)) →
      (v4_2 < 0 →
        K (nI 0)) ∧
      (¬ v4_2 < 0 →
        (p3 ≤ v4_2 →
          K (nI 0)) ∧
        (¬ p3 ≤ v4_2 →
          wp_X7_signAt x_length x_signs (p1 + (nI 2)) (fun r_3 =>
          (¬ r_3 = (nI 44) →
            K (nI 0)) ∧
          (r_3 = (nI 44) →
            K (nI 1)))))))

def wp_X9_isClass (p0 : Int32) (K : Int32 → Prop) : Prop :=
    (p0 < 0 →
      K (nI 0)) ∧
    (¬ p0 < 0 →
      ((nI 6) ≤ p0 →
        K (nI 0)) ∧
      (¬ (nI 6) ≤ p0 →
        K (nI 1)))

def wp_X7_partsOf (p0 : Int32) (K : Int32 → Prop) : Prop :=
    (p0 = (nI 38) →
      K (nI 2)) ∧
    (¬ p0 = (nI 38) →
      (p0 = (nI 42) →
        K (nI 1)) ∧
      (¬ p0 = (nI 42) →
        (p0 = (nI 43) →
          K (nI 1)) ∧
        (¬ p0 = (nI 43) →
          (p0 = (nI 46) →
            K (nI 0)) ∧
          (¬ p0 = (nI 46) →
            (p0 = (nI 63) →
              K (nI 1)) ∧
            (¬ p0 = (nI 63) →
              (p0 = (nI 124) →
                K (nI 2)) ∧
              (¬ p0 = (nI 124) →
                wp_X9_isClass (p0 - (nI 48)) (fun r_1 =>
                (r_1 = 0 →
                  K (-1)) ∧
                (¬ r_1 = 0 →
                  K (nI 0)))))))))

def lp_X7_isRow_5 (x_length : Int32) (x_signs : Nat → Int32) (q2 : Int32) (E31 : Prop) (E46 : Int32 → Prop) : Nat → Int32 → Int32 → Prop
  | 0, _, _ => False
  | n + 1, v3, v4 =>
    (q2 ≤ v4 →
      E46 v3) ∧
    (¬ q2 ≤ v4 →
      wp_X7_signAt x_length x_signs v4 (fun r_4 =>
      wp_X7_partsOf r_4 (fun r_5 =>
      (r_5 < 0 →
        E31) ∧
      (¬ r_5 < 0 →
        (¬ v3 = 0 →
          ∀ v3_6 : Int32, v3_6 = v3 + (r_5 - (nI 1)) →
          ∀ v4_7 : Int32, v4_7 = v4 + (nI 1) →
          lp_X7_isRow_5 x_length x_signs q2 E31 E46 n v3_6 v4_7) ∧
        (v3 = 0 →
          E31)))))
def wp_X7_isRow (x_length : Int32) (x_signs : Nat → Int32) (p1 : Int32) (p2 : Int32) (K : Int32 → Prop) : Prop :=
    ∀ E31_1 : Prop,
    (
      (K (nI 0)) →
     E31_1) →
    ∀ E46_3 : Int32 → Prop,
      (∀ (v3_2 : Int32), 
        ((¬ v3_2 = 0 →
          K (nI 0)) ∧
        (v3_2 = 0 →
          ((nI 16) < (p2 - p1) →
            K (nI 0)) ∧
          (¬ (nI 16) < (p2 - p1) →
            K (nI 1)))) →
       E46_3 v3_2) →
      ∃ n : Nat, lp_X7_isRow_5 x_length x_signs p2 E31_1 E46_3 n (nI 1) p1

def lp_X7_placesIn_5 (x_length : Int32) (x_signs : Nat → Int32) (q2 : Int32) (E32 : Int32 → Prop) : Nat → Int32 → Int32 → Prop
  | 0, _, _ => False
  | n + 1, v3, v4 =>
    (q2 ≤ v4 →
      E32 v3) ∧
    (¬ q2 ≤ v4 →
      wp_X7_signAt x_length x_signs v4 (fun r_3 =>
      wp_X7_partsOf r_3 (fun r_4 =>
      (¬ r_4 = 0 →
        ∀ v4_5 : Int32, v4_5 = v4 + (nI 1) →
        lp_X7_placesIn_5 x_length x_signs q2 E32 n v3 v4_5) ∧
      (r_4 = 0 →
        ∀ v3_6 : Int32, v3_6 = v3 + (nI 1) →
        ∀ v4_7 : Int32, v4_7 = v4 + (nI 1) →
        lp_X7_placesIn_5 x_length x_signs q2 E32 n v3_6 v4_7))))
def wp_X7_placesIn (x_length : Int32) (x_signs : Nat → Int32) (p1 : Int32) (p2 : Int32) (K : Int32 → Prop) : Prop :=
    ∀ E32_2 : Int32 → Prop,
    (∀ (v3_1 : Int32), 
      (K v3_1) →
     E32_2 v3_1) →
    ∃ n : Nat, lp_X7_placesIn_5 x_length x_signs p2 E32_2 n (nI 0) p1

def wp_X7_isNextRule (x_length : Int32) (x_rulesSeen : Int32) (x_placesSeen : Int32) (x_signs : Nat → Int32) (p1 : Int32) (p2 : Int32) (K : Int32 → Int32 → Int32 → Prop) : Prop :=
    wp_X7_isRow x_length x_signs p1 p2 (fun r_1 =>
    (r_1 = 0 →
      K (nI 0) x_rulesSeen x_placesSeen) ∧
    (¬ r_1 = 0 →
      (x_rulesSeen < (nI 4) →
        wp_X7_placesIn x_length x_signs p1 p2 (fun r_2 =>
        ((x_placesSeen + r_2) ≤ (nI 10) →
          ∀ x_rulesSeen_3 : Int32, x_rulesSeen_3 = x_rulesSeen + (nI 1) →
          ∀ x_placesSeen_4 : Int32, x_placesSeen_4 = x_placesSeen + r_2 →
          K (nI 1) x_rulesSeen_3 x_placesSeen_4) ∧
        (¬ (x_placesSeen + r_2) ≤ (nI 10) →
          K (nI 0) x_rulesSeen x_placesSeen))) ∧
      (¬ x_rulesSeen < (nI 4) →
        K (nI 0) x_rulesSeen x_placesSeen)))

def wp_X7_isItem (x_length : Int32) (x_rulesSeen : Int32) (x_placesSeen : Int32) (x_signs : Nat → Int32) (p1 : Int32) (p2 : Int32) (K : Int32 → Int32 → Int32 → Prop) : Prop :=
    wp_X7_signAt x_length x_signs p1 (fun r_1 =>
    (r_1 = (nI 99) →
      wp_X7_hasFigure x_length x_signs p1 p2 (nI 6) (fun r_2 =>
      (r_2 = 0 →
        K (nI 0) x_rulesSeen x_placesSeen) ∧
      (¬ r_2 = 0 →
        wp_X7_areLetters x_length x_signs (p1 + (nI 3)) p2 (nI 1) (nI 26) (fun r_3 =>
        (r_3 = 0 →
          K (nI 0) x_rulesSeen x_placesSeen) ∧
        (¬ r_3 = 0 →
          K (nI 1) x_rulesSeen x_placesSeen))))) ∧
    (¬ r_1 = (nI 99) →
      (r_1 = (nI 114) →
        wp_X7_hasFigure x_length x_signs p1 p2 (nI 4) (fun r_4 =>
        (r_4 = 0 →
          K (nI 0) x_rulesSeen x_placesSeen) ∧
        (¬ r_4 = 0 →
          wp_X7_isNextRule x_length x_rulesSeen x_placesSeen x_signs (p1 + (nI 3)) p2 (fun r_7 x_rulesSeen_5 x_placesSeen_6 =>
          (r_7 = 0 →
            K (nI 0) x_rulesSeen_5 x_placesSeen_6) ∧
          (¬ r_7 = 0 →
            K (nI 1) x_rulesSeen_5 x_placesSeen_6))))) ∧
      (¬ r_1 = (nI 114) →
        (r_1 = (nI 115) →
          wp_X7_areLetters x_length x_signs (p1 + (nI 1)) p2 (nI 0) (nI 30) (fun r_8 =>
          narrow .boolean (.int r_8) = .int r_8 ∧
          K r_8 x_rulesSeen x_placesSeen)) ∧
        (¬ r_1 = (nI 115) →
          K (nI 0) x_rulesSeen x_placesSeen))))

def lp_X7_firstFault_14 (x_length : Int32) (x_signs : Nat → Int32) (E48 : Int32 → Int32 → Int32 → Prop) (E60 : Int32 → Int32 → Prop) : Nat → Int32 → Int32 → Int32 → Int32 → Prop
  | 0, _, _, _, _ => False
  | n + 1, v1, v2, x_rulesSeen, x_placesSeen =>
    ((nI 200) ≤ v2 →
      E60 x_rulesSeen x_placesSeen) ∧
    (¬ (nI 200) ≤ v2 →
      (x_length ≤ v1 →
        E60 x_rulesSeen x_placesSeen) ∧
      (¬ x_length ≤ v1 →
        wp_X7_endOfItem x_length x_signs v1 (fun r_8 =>
        (r_8 < 0 →
          E48 v1 x_rulesSeen x_placesSeen) ∧
        (¬ r_8 < 0 →
          wp_X7_isItem x_length x_rulesSeen x_placesSeen x_signs v1 r_8 (fun r_11 x_rulesSeen_9 x_placesSeen_10 =>
          (¬ r_11 = 0 →
            ∀ v1_12 : Int32, v1_12 = r_8 + (nI 1) →
            ∀ v2_13 : Int32, v2_13 = v2 + (nI 1) →
            lp_X7_firstFault_14 x_length x_signs E48 E60 n v1_12 v2_13 x_rulesSeen_9 x_placesSeen_10) ∧
          (r_11 = 0 →
            E48 v1 x_rulesSeen_9 x_placesSeen_10))))))
def wp_X7_firstFault (x_length : Int32) (x_rulesSeen : Int32) (x_placesSeen : Int32) (x_signs : Nat → Int32) (K : Int32 → Int32 → Int32 → Prop) : Prop :=
    ∀ E48_4 : Int32 → Int32 → Int32 → Prop,
    (∀ (v1_1 : Int32) (x_rulesSeen_2 : Int32) (x_placesSeen_3 : Int32), 
      (K v1_1 x_rulesSeen_2 x_placesSeen_3) →
     E48_4 v1_1 x_rulesSeen_2 x_placesSeen_3) →
    ∀ E60_7 : Int32 → Int32 → Prop,
      (∀ (x_rulesSeen_5 : Int32) (x_placesSeen_6 : Int32), 
        (K (-4) x_rulesSeen_5 x_placesSeen_6) →
       E60_7 x_rulesSeen_5 x_placesSeen_6) →
      ∃ n : Nat, lp_X7_firstFault_14 x_length x_signs E48_4 E60_7 n (nI 0) (nI 0) (nI 0) (nI 0)

def wp_X9_fault (x_text_length : Int32) (x_text_rulesSeen : Int32) (x_text_placesSeen : Int32) (x_text_signs : Nat → Int32) (K : Int32 → Int32 → Int32 → Prop) : Prop :=
    wp_X7_firstFault x_text_length x_text_rulesSeen x_text_placesSeen x_text_signs (fun r_3 x_text_rulesSeen_1 x_text_placesSeen_2 =>
    K r_3 x_text_rulesSeen_1 x_text_placesSeen_2)

def wp_X7_rulesSeen (x_rulesSeen : Int32) (K : Int32 → Prop) : Prop :=
    K x_rulesSeen

def wp_X4_clear (x_number : Int32) (x_placeNumber : Int32) (K : Int32 → Int32 → Prop) : Prop :=
    K (nI 0) (nI 0)

def lp_J7_fill_53178_5 (n_a : Nat) (q1 : Int32) (q3 : Int32) (E20 : (Nat → Int32) → Prop) : Nat → Int32 → (Nat → Int32) → Prop
  | 0, _, _ => False
  | n + 1, v2, x =>
    (q3 ≤ v2 →
      E20 x) ∧
    (¬ q3 ≤ v2 →
      vp_in v2 n_a ∧
      ∀ x_4 : Nat → Int32, x_4 = upd x v2.toNatClampNeg q1 →
      ∀ v2_5 : Int32, v2_5 = v2 + (nI 1) →
      lp_J7_fill_53178_5 n_a q1 q3 E20 n v2_5 x_4)
def wp_J7_fill_53178 (n_a : Nat) (x : Nat → Int32) (p1 : Int32) (K : (Nat → Int32) → Prop) : Prop :=
    ∀ v3_1 : Int32, v3_1 = nI n_a →
    ∀ E20_3 : (Nat → Int32) → Prop,
    (∀ (x_2 : Nat → Int32), 
      (K x_2) →
     E20_3 x_2) →
    ∃ n : Nat, lp_J7_fill_53178_5 n_a p1 v3_1 E20_3 n (nI 0) x

def wp_X6_clear (x_length : Int32) (x_classes : Nat → Int32) (x_kinds : Nat → Int32) (K : Int32 → (Nat → Int32) → (Nat → Int32) → Prop) : Prop :=
    wp_J7_fill_53178 26 x_classes (nI 0) (fun x_classes_1 =>
    wp_J7_fill_53178 4 x_kinds (nI 0) (fun x_kinds_2 =>
    K (nI 0) x_classes_1 x_kinds_2))

def wp_X6_clearLine (x_length : Int32) (K : Int32 → Prop) : Prop :=
    K (nI 0)

def wp_X6_length (x_length : Int32) (K : Int32 → Prop) : Prop :=
    K x_length

def lp_X6_putIn_27 (q1 : Int32) (E52 : (Nat → Int32) → Prop) : Nat → Int32 → (Nat → Int32) → Prop
  | 0, _, _ => False
  | n + 1, v3, x_line =>
    (v3 ≤ q1 →
      E52 x_line) ∧
    (¬ v3 ≤ q1 →
      vp_in (v3 - (nI 1)) 30 ∧
      ∀ t_5 : Int32, t_5 = x_line (v3 - (nI 1)).toNatClampNeg →
      vp_in v3 30 ∧
      ∀ x_line_6 : Nat → Int32, x_line_6 = upd x_line v3.toNatClampNeg t_5 →
      ∀ v3_7 : Int32, v3_7 = v3 + (-1) →
      lp_X6_putIn_27 q1 E52 n v3_7 x_line_6)
def wp_X6_putIn (x_length : Int32) (x_line : Nat → Int32) (p1 : Int32) (p2 : Int32) (K : Int32 → (Nat → Int32) → Prop) : Prop :=
    (p1 < 0 →
      K x_length x_line) ∧
    (¬ p1 < 0 →
      (x_length < p1 →
        K x_length x_line) ∧
      (¬ x_length < p1 →
        (x_length < (nI 30) →
          ∀ E52_2 : (Nat → Int32) → Prop,
          (∀ (x_line_1 : Nat → Int32), 
            (vp_in p1 30 ∧
            ∀ x_line_3 : Nat → Int32, x_line_3 = upd x_line_1 p1.toNatClampNeg p2 →
            ∀ x_length_4 : Int32, x_length_4 = x_length + (nI 1) →
            K x_length_4 x_line_3) →
           E52_2 x_line_1) →
          ∃ n : Nat, lp_X6_putIn_27 p1 E52_2 n x_length x_line) ∧
        (¬ x_length < (nI 30) →
          K x_length x_line)))

def wp_X4_number (x_number : Int32) (K : Int32 → Prop) : Prop :=
    K x_number

def wp_X6_setKind (x_kinds : Nat → Int32) (p1 : Int32) (p2 : Int32) (K : (Nat → Int32) → Prop) : Prop :=
    (p1 < 0 →
      K x_kinds) ∧
    (¬ p1 < 0 →
      ((nI 4) ≤ p1 →
        K x_kinds) ∧
      (¬ (nI 4) ≤ p1 →
        vp_in p1 4 ∧
        ∀ x_kinds_1 : Nat → Int32, x_kinds_1 = upd x_kinds p1.toNatClampNeg p2 →
        K x_kinds_1))

def wp_X2_clear (x_height : Int32) (K : Int32 → Prop) : Prop :=
    K (nI 0)

def wp_X2_push (x_height : Int32) (x_firsts : Nat → Int32) (x_lasts : Nat → Int32) (x_lacking : Nat → Int32) (p1 : Int32) (p2 : Int32) (p3 : Int32) (K : Int32 → (Nat → Int32) → (Nat → Int32) → (Nat → Int32) → Prop) : Prop :=
    ((nI 16) ≤ x_height →
      K x_height x_firsts x_lasts x_lacking) ∧
    (¬ (nI 16) ≤ x_height →
      vp_in x_height 16 ∧
      ∀ x_firsts_1 : Nat → Int32, x_firsts_1 = upd x_firsts x_height.toNatClampNeg p1 →
      vp_in x_height 16 ∧
      ∀ x_lasts_2 : Nat → Int32, x_lasts_2 = upd x_lasts x_height.toNatClampNeg p2 →
      vp_in x_height 16 ∧
      ∀ x_lacking_3 : Nat → Int32, x_lacking_3 = upd x_lacking x_height.toNatClampNeg (vp_nar .boolean p3) →
      ∀ x_height_4 : Int32, x_height_4 = x_height + (nI 1) →
      K x_height_4 x_firsts_1 x_lasts_2 x_lacking_3)

def wp_X4_addPlace (x_taken : Nat → Int32) (x_behinds : Nat → Int32) (x_parts_height : Int32) (x_parts_firsts : Nat → Int32) (x_parts_lasts : Nat → Int32) (x_parts_lacking : Nat → Int32) (p1 : Int32) (p2 : Int32) (K : (Nat → Int32) → (Nat → Int32) → Int32 → (Nat → Int32) → (Nat → Int32) → (Nat → Int32) → Prop) : Prop :=
    (p1 < 0 →
      K x_taken x_behinds x_parts_height x_parts_firsts x_parts_lasts x_parts_lacking) ∧
    (¬ p1 < 0 →
      ((nI 10) ≤ p1 →
        K x_taken x_behinds x_parts_height x_parts_firsts x_parts_lasts x_parts_lacking) ∧
      (¬ (nI 10) ≤ p1 →
        vp_in p1 10 ∧
        ∀ x_taken_1 : Nat → Int32, x_taken_1 = upd x_taken p1.toNatClampNeg p2 →
        vp_in p1 10 ∧
        ∀ x_behinds_2 : Nat → Int32, x_behinds_2 = upd x_behinds p1.toNatClampNeg (nI 0) →
        wp_X2_push x_parts_height x_parts_firsts x_parts_lasts x_parts_lacking ((nI 1) <<< (p1 &&& 31)) ((nI 1) <<< (p1 &&& 31)) (nI 0) (fun x_parts_height_3 x_parts_firsts_4 x_parts_lasts_5 x_parts_lacking_6 =>
        K x_taken_1 x_behinds_2 x_parts_height_3 x_parts_firsts_4 x_parts_lasts_5 x_parts_lacking_6)))

def wp_X2_first (x_height : Int32) (x_firsts : Nat → Int32) (K : Int32 → Prop) : Prop :=
    (x_height ≤ 0 →
      K (nI 0)) ∧
    (¬ x_height ≤ 0 →
      vp_in (x_height - (nI 1)) 16 ∧
      K (x_firsts (x_height - (nI 1)).toNatClampNeg))

def wp_X2_last (x_height : Int32) (x_lasts : Nat → Int32) (K : Int32 → Prop) : Prop :=
    (x_height ≤ 0 →
      K (nI 0)) ∧
    (¬ x_height ≤ 0 →
      vp_in (x_height - (nI 1)) 16 ∧
      K (x_lasts (x_height - (nI 1)).toNatClampNeg))

def wp_X2_mayLack (x_height : Int32) (x_lacking : Nat → Int32) (K : Int32 → Prop) : Prop :=
    (x_height ≤ 0 →
      K (nI 0)) ∧
    (¬ x_height ≤ 0 →
      vp_in (x_height - (nI 1)) 16 ∧
      ((x_lacking (x_height - (nI 1)).toNatClampNeg) = 0 →
        K (nI 0)) ∧
      (¬ (x_lacking (x_height - (nI 1)).toNatClampNeg) = 0 →
        K (nI 1)))

def wp_X2_pop (x_height : Int32) (K : Int32 → Prop) : Prop :=
    (x_height ≤ 0 →
      K x_height) ∧
    (¬ x_height ≤ 0 →
      ∀ x_height_1 : Int32, x_height_1 = x_height - (nI 1) →
      K x_height_1)

def lp_X4_goOn_2 (q1 : Int32) (q2 : Int32) (E32 : (Nat → Int32) → Prop) : Nat → Int32 → (Nat → Int32) → Prop
  | 0, _, _ => False
  | n + 1, v3, x_behinds =>
    ((nI 10) ≤ v3 →
      E32 x_behinds) ∧
    (¬ (nI 10) ≤ v3 →
      (((q1 >>> (v3 &&& 31)) &&& (nI 1)) = 0 →
        ∀ v3_3 : Int32, v3_3 = v3 + (nI 1) →
        lp_X4_goOn_2 q1 q2 E32 n v3_3 x_behinds) ∧
      (¬ ((q1 >>> (v3 &&& 31)) &&& (nI 1)) = 0 →
        vp_in v3 10 ∧
        ∀ t_4 : Int32, t_4 = (x_behinds v3.toNatClampNeg) ||| q2 →
        vp_in v3 10 ∧
        ∀ x_behinds_5 : Nat → Int32, x_behinds_5 = upd x_behinds v3.toNatClampNeg t_4 →
        ∀ v3_6 : Int32, v3_6 = v3 + (nI 1) →
        lp_X4_goOn_2 q1 q2 E32 n v3_6 x_behinds_5))
def wp_X4_goOn (x_behinds : Nat → Int32) (p1 : Int32) (p2 : Int32) (K : (Nat → Int32) → Prop) : Prop :=
    ∀ E32_2 : (Nat → Int32) → Prop,
    (∀ (x_behinds_1 : Nat → Int32), 
      (K x_behinds_1) →
     E32_2 x_behinds_1) →
    ∃ n : Nat, lp_X4_goOn_2 p1 p2 E32_2 n (nI 0) x_behinds

def wp_X4_joinOther (x_parts_height : Int32) (x_parts_firsts : Nat → Int32) (x_parts_lasts : Nat → Int32) (x_parts_lacking : Nat → Int32) (p1 : Int32) (p2 : Int32) (p3 : Int32) (K : Int32 → (Nat → Int32) → (Nat → Int32) → (Nat → Int32) → Prop) : Prop :=
    wp_X2_first x_parts_height x_parts_firsts (fun r_1 =>
    wp_X2_last x_parts_height x_parts_lasts (fun r_2 =>
    wp_X2_mayLack x_parts_height x_parts_lacking (fun r_3 =>
    wp_X2_pop x_parts_height (fun x_parts_height_4 =>
    ∀ J60_6 : Int32 → Prop,
    (∀ (s3_5 : Int32), 
      (wp_X2_push x_parts_height_4 x_parts_firsts x_parts_lasts x_parts_lacking (p1 ||| r_1) (p2 ||| r_2) s3_5 (fun x_parts_height_7 x_parts_firsts_8 x_parts_lasts_9 x_parts_lacking_10 =>
      K x_parts_height_7 x_parts_firsts_8 x_parts_lasts_9 x_parts_lacking_10)) →
     J60_6 s3_5) →
    ∀ J55_11 : Prop,
      (
        (J60_6 (nI 1)) →
       J55_11) →
      (¬ p3 = 0 →
          J55_11) ∧
        (p3 = 0 →
          (r_3 = 0 →
            J60_6 (nI 0)) ∧
          (¬ r_3 = 0 →
            J55_11))))))

def wp_X4_joinNext (x_behinds : Nat → Int32) (x_parts_height : Int32) (x_parts_firsts : Nat → Int32) (x_parts_lasts : Nat → Int32) (x_parts_lacking : Nat → Int32) (p1 : Int32) (p2 : Int32) (p3 : Int32) (K : (Nat → Int32) → Int32 → (Nat → Int32) → (Nat → Int32) → (Nat → Int32) → Prop) : Prop :=
    wp_X2_first x_parts_height x_parts_firsts (fun r_1 =>
    wp_X2_last x_parts_height x_parts_lasts (fun r_2 =>
    wp_X2_mayLack x_parts_height x_parts_lacking (fun r_3 =>
    wp_X2_pop x_parts_height (fun x_parts_height_4 =>
    wp_X4_goOn x_behinds p2 r_1 (fun x_behinds_5 =>
    ∀ J57_7 : Int32 → Prop,
    (∀ (s1_6 : Int32), 
      (∀ J71_9 : Int32 → Prop,
      (∀ (s2_8 : Int32), 
        (∀ J85_11 : Int32 → Prop,
        (∀ (s3_10 : Int32), 
          (wp_X2_push x_parts_height_4 x_parts_firsts x_parts_lasts x_parts_lacking s1_6 s2_8 s3_10 (fun x_parts_height_12 x_parts_firsts_13 x_parts_lasts_14 x_parts_lacking_15 =>
          K x_behinds_5 x_parts_height_12 x_parts_firsts_13 x_parts_lasts_14 x_parts_lacking_15)) →
         J85_11 s3_10) →
        ∀ J84_16 : Prop,
          (
            (J85_11 (nI 0)) →
           J84_16) →
          (p3 = 0 →
              J84_16) ∧
            (¬ p3 = 0 →
              (r_3 = 0 →
                J84_16) ∧
              (¬ r_3 = 0 →
                J85_11 (nI 1)))) →
       J71_9 s2_8) →
      (r_3 = 0 →
          J71_9 r_2) ∧
        (¬ r_3 = 0 →
          J71_9 (p2 ||| r_2))) →
     J57_7 s1_6) →
    (p3 = 0 →
        J57_7 p1) ∧
      (¬ p3 = 0 →
        J57_7 (p1 ||| r_1)))))))

def wp_X4_join (x_behinds : Nat → Int32) (x_parts_height : Int32) (x_parts_firsts : Nat → Int32) (x_parts_lasts : Nat → Int32) (x_parts_lacking : Nat → Int32) (p1 : Int32) (K : (Nat → Int32) → Int32 → (Nat → Int32) → (Nat → Int32) → (Nat → Int32) → Prop) : Prop :=
    wp_X2_first x_parts_height x_parts_firsts (fun r_1 =>
    wp_X2_last x_parts_height x_parts_lasts (fun r_2 =>
    wp_X2_mayLack x_parts_height x_parts_lacking (fun r_3 =>
    wp_X2_pop x_parts_height (fun x_parts_height_4 =>
    (p1 = (nI 38) →
      wp_X4_joinNext x_behinds x_parts_height_4 x_parts_firsts x_parts_lasts x_parts_lacking r_1 r_2 r_3 (fun x_behinds_5 x_parts_height_6 x_parts_firsts_7 x_parts_lasts_8 x_parts_lacking_9 =>
      K x_behinds_5 x_parts_height_6 x_parts_firsts_7 x_parts_lasts_8 x_parts_lacking_9)) ∧
    (¬ p1 = (nI 38) →
      (p1 = (nI 63) →
        wp_X2_push x_parts_height_4 x_parts_firsts x_parts_lasts x_parts_lacking r_1 r_2 (nI 1) (fun x_parts_height_10 x_parts_firsts_11 x_parts_lasts_12 x_parts_lacking_13 =>
        K x_behinds x_parts_height_10 x_parts_firsts_11 x_parts_lasts_12 x_parts_lacking_13)) ∧
      (¬ p1 = (nI 63) →
        (p1 = (nI 124) →
          wp_X4_joinOther x_parts_height_4 x_parts_firsts x_parts_lasts x_parts_lacking r_1 r_2 r_3 (fun x_parts_height_14 x_parts_firsts_15 x_parts_lasts_16 x_parts_lacking_17 =>
          K x_behinds x_parts_height_14 x_parts_firsts_15 x_parts_lasts_16 x_parts_lacking_17)) ∧
        (¬ p1 = (nI 124) →
          wp_X4_goOn x_behinds r_2 r_1 (fun x_behinds_18 =>
          ∀ J131_20 : Int32 → Prop,
          (∀ (s3_19 : Int32), 
            (wp_X2_push x_parts_height_4 x_parts_firsts x_parts_lasts x_parts_lacking r_1 r_2 s3_19 (fun x_parts_height_21 x_parts_firsts_22 x_parts_lasts_23 x_parts_lacking_24 =>
            K x_behinds_18 x_parts_height_21 x_parts_firsts_22 x_parts_lasts_23 x_parts_lacking_24)) →
           J131_20 s3_19) →
          ∀ J126_25 : Prop,
            (
              (J131_20 (nI 1)) →
             J126_25) →
            (¬ r_3 = 0 →
                J126_25) ∧
              (r_3 = 0 →
                (¬ p1 = (nI 42) →
                  J131_20 (nI 0)) ∧
                (p1 = (nI 42) →
                  J126_25))))))))))

def lp_X4_add_50 (y_length : Int32) (y_signs : Nat → Int32) (q2 : Int32) (E123 : (Nat → Int32) → (Nat → Int32) → Int32 → (Nat → Int32) → (Nat → Int32) → (Nat → Int32) → Prop) : Nat → Int32 → Int32 → (Nat → Int32) → (Nat → Int32) → Int32 → (Nat → Int32) → (Nat → Int32) → (Nat → Int32) → Prop
  | 0, _, _, _, _, _, _, _, _ => False
  | n + 1, v5, v6, x_taken, x_behinds, x_parts_height, x_parts_firsts, x_parts_lasts, x_parts_lacking =>
    (v6 < q2 →
      E123 x_taken x_behinds x_parts_height x_parts_firsts x_parts_lasts x_parts_lacking) ∧
    (¬ v6 < q2 →
      wp_X7_signAt y_length y_signs v6 (fun r_20 =>
      ∀ J82_21 : Prop,
      (
        (∀ v5_22 : Int32, v5_22 = v5 + (-1) →
        ∀ J105_24 : Int32 → Prop,
        (∀ (s2_23 : Int32), 
          (wp_X4_addPlace x_taken x_behinds x_parts_height x_parts_firsts x_parts_lasts x_parts_lacking v5_22 s2_23 (fun x_taken_25 x_behinds_26 x_parts_height_27 x_parts_firsts_28 x_parts_lasts_29 x_parts_lacking_30 =>
          ∀ v6_31 : Int32, v6_31 = v6 + (-1) →
          lp_X4_add_50 y_length y_signs q2 E123 n v5_22 v6_31 x_taken_25 x_behinds_26 x_parts_height_27 x_parts_firsts_28 x_parts_lasts_29 x_parts_lacking_30)) →
         J105_24 s2_23) →
        (¬ r_20 = (nI 46) →
            J105_24 (r_20 - (nI 48))) ∧
          (r_20 = (nI 46) →
            J105_24 (nI 6))) →
       J82_21) →
      (r_20 = (nI 46) →
          J82_21) ∧
        (¬ r_20 = (nI 46) →
          wp_X9_isClass (r_20 - (nI 48)) (fun r_32 =>
          (r_32 = 0 →
            wp_X4_join x_behinds x_parts_height x_parts_firsts x_parts_lasts x_parts_lacking r_20 (fun x_behinds_33 x_parts_height_34 x_parts_firsts_35 x_parts_lasts_36 x_parts_lacking_37 =>
            ∀ v6_38 : Int32, v6_38 = v6 + (-1) →
            lp_X4_add_50 y_length y_signs q2 E123 n v5 v6_38 x_taken x_behinds_33 x_parts_height_34 x_parts_firsts_35 x_parts_lasts_36 x_parts_lacking_37)) ∧
          (¬ r_32 = 0 →
            J82_21)))))
def wp_X4_add (x_number : Int32) (x_placeNumber : Int32) (x_places : Nat → Int32) (x_firsts : Nat → Int32) (x_wholes : Nat → Int32) (x_taken : Nat → Int32) (x_behinds : Nat → Int32) (x_parts_height : Int32) (x_parts_firsts : Nat → Int32) (x_parts_lasts : Nat → Int32) (x_parts_lacking : Nat → Int32) (y_length : Int32) (y_signs : Nat → Int32) (p2 : Int32) (p3 : Int32) (K : Int32 → Int32 → (Nat → Int32) → (Nat → Int32) → (Nat → Int32) → (Nat → Int32) → (Nat → Int32) → Int32 → (Nat → Int32) → (Nat → Int32) → (Nat → Int32) → Prop) : Prop :=
    wp_X7_placesIn y_length y_signs p2 p3 (fun r_1 =>
    ((nI 4) ≤ x_number →
      K x_number x_placeNumber x_places x_firsts x_wholes x_taken x_behinds x_parts_height x_parts_firsts x_parts_lasts x_parts_lacking) ∧
    (¬ (nI 4) ≤ x_number →
      ((x_placeNumber + r_1) ≤ (nI 10) →
        wp_X2_clear x_parts_height (fun x_parts_height_2 =>
        ∀ v5_3 : Int32, v5_3 = x_placeNumber + r_1 →
        ∀ v6_4 : Int32, v6_4 = p3 - (nI 1) →
        ∀ E123_11 : (Nat → Int32) → (Nat → Int32) → Int32 → (Nat → Int32) → (Nat → Int32) → (Nat → Int32) → Prop,
        (∀ (x_taken_5 : Nat → Int32) (x_behinds_6 : Nat → Int32) (x_parts_height_7 : Int32) (x_parts_firsts_8 : Nat → Int32) (x_parts_lasts_9 : Nat → Int32) (x_parts_lacking_10 : Nat → Int32), 
          (∀ t_12 : Int32, t_12 = ((nI 1) <<< ((x_placeNumber + r_1) &&& 31)) - ((nI 1) <<< (x_placeNumber &&& 31)) →
          vp_in x_number 4 ∧
          ∀ x_places_13 : Nat → Int32, x_places_13 = upd x_places x_number.toNatClampNeg t_12 →
          wp_X2_first x_parts_height_7 x_parts_firsts_8 (fun r_14 =>
          vp_in x_number 4 ∧
          ∀ x_firsts_15 : Nat → Int32, x_firsts_15 = upd x_firsts x_number.toNatClampNeg r_14 →
          wp_X2_last x_parts_height_7 x_parts_lasts_9 (fun r_16 =>
          vp_in x_number 4 ∧
          ∀ x_wholes_17 : Nat → Int32, x_wholes_17 = upd x_wholes x_number.toNatClampNeg r_16 →
          ∀ x_number_18 : Int32, x_number_18 = x_number + (nI 1) →
          ∀ x_placeNumber_19 : Int32, x_placeNumber_19 = x_placeNumber + r_1 →
          K x_number_18 x_placeNumber_19 x_places_13 x_firsts_15 x_wholes_17 x_taken_5 x_behinds_6 x_parts_height_7 x_parts_firsts_8 x_parts_lasts_9 x_parts_lacking_10))) →
         E123_11 x_taken_5 x_behinds_6 x_parts_height_7 x_parts_firsts_8 x_parts_lasts_9 x_parts_lacking_10) →
        ∃ n : Nat, lp_X4_add_50 y_length y_signs p2 E123_11 n v5_3 v6_4 x_taken x_behinds x_parts_height_2 x_parts_firsts x_parts_lasts x_parts_lacking)) ∧
      (¬ (x_placeNumber + r_1) ≤ (nI 10) →
        K x_number x_placeNumber x_places x_firsts x_wholes x_taken x_behinds x_parts_height x_parts_firsts x_parts_lasts x_parts_lacking)))

def wp_X6_setClass (x_classes : Nat → Int32) (p1 : Int32) (p2 : Int32) (K : (Nat → Int32) → Prop) : Prop :=
    wp_X9_isLetter p1 (fun r_1 =>
    (r_1 = 0 →
      K x_classes) ∧
    (¬ r_1 = 0 →
      vp_in p1 26 ∧
      ∀ x_classes_2 : Nat → Int32, x_classes_2 = upd x_classes p1.toNatClampNeg p2 →
      K x_classes_2))

def lp_X7_tellItem_53 (x_length : Int32) (x_signs : Nat → Int32) (q1 : Int32) (q4 : Int32) (E89 : (Nat → Int32) → Prop) : Nat → Int32 → (Nat → Int32) → Prop
  | 0, _, _ => False
  | n + 1, v5, z_classes =>
    (q4 ≤ v5 →
      E89 z_classes) ∧
    (¬ q4 ≤ v5 →
      wp_X7_signAt x_length x_signs v5 (fun r_6 =>
      wp_X7_signAt x_length x_signs (q1 + (nI 1)) (fun r_7 =>
      wp_X6_setClass z_classes (r_6 - (nI 97)) (r_7 - (nI 48)) (fun z_classes_8 =>
      ∀ v5_9 : Int32, v5_9 = v5 + (nI 1) →
      lp_X7_tellItem_53 x_length x_signs q1 q4 E89 n v5_9 z_classes_8))))
def lp_X7_tellItem_132 (x_length : Int32) (x_signs : Nat → Int32) (q4 : Int32) (E162 : Int32 → (Nat → Int32) → Prop) : Nat → Int32 → Int32 → (Nat → Int32) → Prop
  | 0, _, _, _ => False
  | n + 1, v5, z_length, z_line =>
    (q4 ≤ v5 →
      E162 z_length z_line) ∧
    (¬ q4 ≤ v5 →
      wp_X6_length z_length (fun r_35 =>
      wp_X7_signAt x_length x_signs v5 (fun r_36 =>
      wp_X6_putIn z_length z_line r_35 (r_36 - (nI 97)) (fun z_length_37 z_line_38 =>
      ∀ v5_39 : Int32, v5_39 = v5 + (nI 1) →
      lp_X7_tellItem_132 x_length x_signs q4 E162 n v5_39 z_length_37 z_line_38))))
def wp_X7_tellItem (x_length : Int32) (x_signs : Nat → Int32) (y_number : Int32) (y_placeNumber : Int32) (y_places : Nat → Int32) (y_firsts : Nat → Int32) (y_wholes : Nat → Int32) (y_taken : Nat → Int32) (y_behinds : Nat → Int32) (y_parts_height : Int32) (y_parts_firsts : Nat → Int32) (y_parts_lasts : Nat → Int32) (y_parts_lacking : Nat → Int32) (z_length : Int32) (z_classes : Nat → Int32) (z_kinds : Nat → Int32) (z_line : Nat → Int32) (p1 : Int32) (K : Int32 → Int32 → Int32 → (Nat → Int32) → (Nat → Int32) → (Nat → Int32) → (Nat → Int32) → (Nat → Int32) → Int32 → (Nat → Int32) → (Nat → Int32) → (Nat → Int32) → Int32 → (Nat → Int32) → (Nat → Int32) → (Nat → Int32) → Prop) : Prop :=
    wp_X7_endOfItem x_length x_signs p1 (fun r_1 =>
    (0 ≤ r_1 →
      wp_X7_signAt x_length x_signs p1 (fun r_2 =>
      (r_2 = (nI 99) →
        ∀ v5_3 : Int32, v5_3 = p1 + (nI 3) →
        ∀ E89_5 : (Nat → Int32) → Prop,
        (∀ (z_classes_4 : Nat → Int32), 
          (K (r_1 + (nI 1)) y_number y_placeNumber y_places y_firsts y_wholes y_taken y_behinds y_parts_height y_parts_firsts y_parts_lasts y_parts_lacking z_length z_classes_4 z_kinds z_line) →
         E89_5 z_classes_4) →
        ∃ n : Nat, lp_X7_tellItem_53 x_length x_signs p1 r_1 E89_5 n v5_3 z_classes) ∧
      (¬ r_2 = (nI 99) →
        (r_2 = (nI 114) →
          wp_X4_number y_number (fun r_16 =>
          wp_X7_signAt x_length x_signs (p1 + (nI 1)) (fun r_17 =>
          wp_X6_setKind z_kinds r_16 (r_17 - (nI 48)) (fun z_kinds_18 =>
          wp_X4_add y_number y_placeNumber y_places y_firsts y_wholes y_taken y_behinds y_parts_height y_parts_firsts y_parts_lasts y_parts_lacking x_length x_signs (p1 + (nI 3)) r_1 (fun y_number_19 y_placeNumber_20 y_places_21 y_firsts_22 y_wholes_23 y_taken_24 y_behinds_25 y_parts_height_26 y_parts_firsts_27 y_parts_lasts_28 y_parts_lacking_29 =>
          K (r_1 + (nI 1)) y_number_19 y_placeNumber_20 y_places_21 y_firsts_22 y_wholes_23 y_taken_24 y_behinds_25 y_parts_height_26 y_parts_firsts_27 y_parts_lasts_28 y_parts_lacking_29 z_length z_classes z_kinds_18 z_line))))) ∧
        (¬ r_2 = (nI 114) →
          wp_X6_clearLine z_length (fun z_length_30 =>
          ∀ v5_31 : Int32, v5_31 = p1 + (nI 1) →
          ∀ E162_34 : Int32 → (Nat → Int32) → Prop,
          (∀ (z_length_32 : Int32) (z_line_33 : Nat → Int32), 
            (K (r_1 + (nI 1)) y_number y_placeNumber y_places y_firsts y_wholes y_taken y_behinds y_parts_height y_parts_firsts y_parts_lasts y_parts_lacking z_length_32 z_classes z_kinds z_line_33) →
           E162_34 z_length_32 z_line_33) →
          ∃ n : Nat, lp_X7_tellItem_132 x_length x_signs r_1 E162_34 n v5_31 z_length_30 z_line))))) ∧
    (¬ 0 ≤ r_1 →
      K x_length y_number y_placeNumber y_places y_firsts y_wholes y_taken y_behinds y_parts_height y_parts_firsts y_parts_lasts y_parts_lacking z_length z_classes z_kinds z_line))

def wp_X0_forget (x_number : Int32) (K : Int32 → Prop) : Prop :=
    K (nI 0)

def wp_X4_placeNumber (x_placeNumber : Int32) (K : Int32 → Prop) : Prop :=
    K x_placeNumber

def wp_X4_hasPlace (x_placeNumber : Int32) (p1 : Int32) (K : Int32 → Prop) : Prop :=
    (p1 < 0 →
      K (nI 0)) ∧
    (¬ p1 < 0 →
      (x_placeNumber ≤ p1 →
        K (nI 0)) ∧
      (¬ x_placeNumber ≤ p1 →
        K (nI 1)))

def wp_X4_takenAt (x_placeNumber : Int32) (x_taken : Nat → Int32) (p1 : Int32) (K : Int32 → Prop) : Prop :=
    wp_X4_hasPlace x_placeNumber p1 (fun r_1 =>
    (r_1 = 0 →
      K (nI 6)) ∧
    (¬ r_1 = 0 →
      vp_in p1 10 ∧
      K (x_taken p1.toNatClampNeg)))

def lp_X5_makeTakers_20 (y_placeNumber : Int32) (y_taken : Nat → Int32) (q2 : Int32) (E63 : (Nat → Int32) → Prop) : Nat → Int32 → (Nat → Int32) → Prop
  | 0, _, _ => False
  | n + 1, v3, x_takers =>
    ((nI 6) ≤ v3 →
      E63 x_takers) ∧
    (¬ (nI 6) ≤ v3 →
      wp_X4_takenAt y_placeNumber y_taken q2 (fun r_8 =>
      ∀ J45_9 : Prop,
      (
        (vp_in v3 6 ∧
        ∀ t_10 : Int32, t_10 = (x_takers v3.toNatClampNeg) ||| ((nI 1) <<< (q2 &&& 31)) →
        vp_in v3 6 ∧
        ∀ x_takers_11 : Nat → Int32, x_takers_11 = upd x_takers v3.toNatClampNeg t_10 →
        ∀ v3_12 : Int32, v3_12 = v3 + (nI 1) →
        lp_X5_makeTakers_20 y_placeNumber y_taken q2 E63 n v3_12 x_takers_11) →
       J45_9) →
      (r_8 = v3 →
          J45_9) ∧
        (¬ r_8 = v3 →
          wp_X4_takenAt y_placeNumber y_taken q2 (fun r_13 =>
          (¬ r_13 = (nI 6) →
            ∀ v3_14 : Int32, v3_14 = v3 + (nI 1) →
            lp_X5_makeTakers_20 y_placeNumber y_taken q2 E63 n v3_14 x_takers) ∧
          (r_13 = (nI 6) →
            J45_9)))))
def lp_X5_makeTakers_10 (y_placeNumber : Int32) (y_taken : Nat → Int32) (E69 : (Nat → Int32) → Prop) : Nat → Int32 → (Nat → Int32) → Prop
  | 0, _, _ => False
  | n + 1, v2, x_takers =>
    wp_X4_placeNumber y_placeNumber (fun r_4 =>
    (r_4 ≤ v2 →
      E69 x_takers) ∧
    (¬ r_4 ≤ v2 →
      ∀ E63_6 : (Nat → Int32) → Prop,
      (∀ (x_takers_5 : Nat → Int32), 
        (∀ v2_7 : Int32, v2_7 = v2 + (nI 1) →
        lp_X5_makeTakers_10 y_placeNumber y_taken E69 n v2_7 x_takers_5) →
       E63_6 x_takers_5) →
      ∃ n : Nat, lp_X5_makeTakers_20 y_placeNumber y_taken v2 E63_6 n (nI 0) x_takers))
def wp_X5_makeTakers (x_takers : Nat → Int32) (y_placeNumber : Int32) (y_taken : Nat → Int32) (K : (Nat → Int32) → Prop) : Prop :=
    wp_J7_fill_53178 6 x_takers (nI 0) (fun x_takers_1 =>
    ∀ E69_3 : (Nat → Int32) → Prop,
    (∀ (x_takers_2 : Nat → Int32), 
      (K x_takers_2) →
     E69_3 x_takers_2) →
    ∃ n : Nat, lp_X5_makeTakers_10 y_placeNumber y_taken E69_3 n (nI 0) x_takers_1)

def wp_X4_has (x_number : Int32) (p1 : Int32) (K : Int32 → Prop) : Prop :=
    (p1 < 0 →
      K (nI 0)) ∧
    (¬ p1 < 0 →
      (x_number ≤ p1 →
        K (nI 0)) ∧
      (¬ x_number ≤ p1 →
        K (nI 1)))

def wp_X4_firstOf (x_number : Int32) (x_firsts : Nat → Int32) (p1 : Int32) (K : Int32 → Prop) : Prop :=
    wp_X4_has x_number p1 (fun r_1 =>
    (r_1 = 0 →
      K (nI 0)) ∧
    (¬ r_1 = 0 →
      vp_in p1 4 ∧
      K (x_firsts p1.toNatClampNeg)))

def wp_X6_kindOf (x_kinds : Nat → Int32) (p1 : Int32) (K : Int32 → Prop) : Prop :=
    (p1 < 0 →
      K (nI 0)) ∧
    (¬ p1 < 0 →
      ((nI 4) ≤ p1 →
        K (nI 0)) ∧
      (¬ (nI 4) ≤ p1 →
        vp_in p1 4 ∧
        K (x_kinds p1.toNatClampNeg)))

def wp_X4_placesOf (x_number : Int32) (x_places : Nat → Int32) (p1 : Int32) (K : Int32 → Prop) : Prop :=
    wp_X4_has x_number p1 (fun r_1 =>
    (r_1 = 0 →
      K (nI 0)) ∧
    (¬ r_1 = 0 →
      vp_in p1 4 ∧
      K (x_places p1.toNatClampNeg)))

def wp_X4_wholeOf (x_number : Int32) (x_wholes : Nat → Int32) (p1 : Int32) (K : Int32 → Prop) : Prop :=
    wp_X4_has x_number p1 (fun r_1 =>
    (r_1 = 0 →
      K (nI 0)) ∧
    (¬ r_1 = 0 →
      vp_in p1 4 ∧
      K (x_wholes p1.toNatClampNeg)))

def wp_X4_behind (x_placeNumber : Int32) (x_behinds : Nat → Int32) (p1 : Int32) (K : Int32 → Prop) : Prop :=
    wp_X4_hasPlace x_placeNumber p1 (fun r_1 =>
    (r_1 = 0 →
      K (nI 0)) ∧
    (¬ r_1 = 0 →
      vp_in p1 10 ∧
      K (x_behinds p1.toNatClampNeg)))

def lp_X5_letGoOn_2 (y_placeNumber : Int32) (y_behinds : Nat → Int32) (q2 : Int32) (E33 : (Nat → Int32) → Prop) : Nat → Int32 → (Nat → Int32) → Prop
  | 0, _, _ => False
  | n + 1, v3, x_onward =>
    ((nI 10) ≤ v3 →
      E33 x_onward) ∧
    (¬ (nI 10) ≤ v3 →
      (((q2 >>> (v3 &&& 31)) &&& (nI 1)) = 0 →
        ∀ v3_3 : Int32, v3_3 = v3 + (nI 1) →
        lp_X5_letGoOn_2 y_placeNumber y_behinds q2 E33 n v3_3 x_onward) ∧
      (¬ ((q2 >>> (v3 &&& 31)) &&& (nI 1)) = 0 →
        wp_X4_behind y_placeNumber y_behinds v3 (fun r_4 =>
        vp_in v3 10 ∧
        ∀ x_onward_5 : Nat → Int32, x_onward_5 = upd x_onward v3.toNatClampNeg r_4 →
        ∀ v3_6 : Int32, v3_6 = v3 + (nI 1) →
        lp_X5_letGoOn_2 y_placeNumber y_behinds q2 E33 n v3_6 x_onward_5)))
def wp_X5_letGoOn (x_onward : Nat → Int32) (y_placeNumber : Int32) (y_behinds : Nat → Int32) (p2 : Int32) (K : (Nat → Int32) → Prop) : Prop :=
    ∀ E33_2 : (Nat → Int32) → Prop,
    (∀ (x_onward_1 : Nat → Int32), 
      (K x_onward_1) →
     E33_2 x_onward_1) →
    ∃ n : Nat, lp_X5_letGoOn_2 y_placeNumber y_behinds p2 E33_2 n (nI 0) x_onward

def lp_X5_make_25 (y_number : Int32) (y_placeNumber : Int32) (y_places : Nat → Int32) (y_firsts : Nat → Int32) (y_wholes : Nat → Int32) (y_behinds : Nat → Int32) (z_kinds : Nat → Int32) (E125 : Int32 → Int32 → (Nat → Int32) → Prop) : Nat → Int32 → Int32 → Int32 → (Nat → Int32) → Prop
  | 0, _, _, _, _ => False
  | n + 1, v3, x_firsts, x_loose, x_onward =>
    wp_X4_number y_number (fun r_7 =>
    (r_7 ≤ v3 →
      E125 x_firsts x_loose x_onward) ∧
    (¬ r_7 ≤ v3 →
      wp_X4_firstOf y_number y_firsts v3 (fun r_8 =>
      ∀ x_firsts_9 : Int32, x_firsts_9 = x_firsts ||| r_8 →
      wp_X6_kindOf z_kinds v3 (fun r_10 =>
      ∀ J71_12 : Int32 → Prop,
      (∀ (x_loose_11 : Int32), 
        (wp_X6_kindOf z_kinds v3 (fun r_13 =>
        ∀ J86_15 : Int32 → Prop,
        (∀ (s0_14 : Int32), 
          (∀ J116_17 : Int32 → Prop,
          (∀ (s2_16 : Int32), 
            (wp_X5_letGoOn x_onward y_placeNumber y_behinds s2_16 (fun x_onward_18 =>
            ∀ v3_19 : Int32, v3_19 = v3 + (nI 1) →
            lp_X5_make_25 y_number y_placeNumber y_places y_firsts y_wholes y_behinds z_kinds E125 n v3_19 x_firsts_9 x_loose_11 x_onward_18)) →
           J116_17 s2_16) →
          (s0_14 = 0 →
              wp_X4_placesOf y_number y_places v3 (fun r_20 =>
              J116_17 r_20)) ∧
            (¬ s0_14 = 0 →
              wp_X4_placesOf y_number y_places v3 (fun r_21 =>
              wp_X4_wholeOf y_number y_wholes v3 (fun r_22 =>
              J116_17 (r_21 &&& (r_22 ^^^ (-1))))))) →
         J86_15 s0_14) →
        ((r_13 &&& (nI 2)) = 0 →
            J86_15 (nI 0)) ∧
          (¬ (r_13 &&& (nI 2)) = 0 →
            J86_15 (nI 1)))) →
       J71_12 x_loose_11) →
      ((r_10 &&& (nI 1)) = 0 →
          J71_12 x_loose) ∧
        (¬ (r_10 &&& (nI 1)) = 0 →
          wp_X4_placesOf y_number y_places v3 (fun r_23 =>
          ∀ x_loose_24 : Int32, x_loose_24 = x_loose ||| r_23 →
          J71_12 x_loose_24))))))
def wp_X5_make (x_firsts : Int32) (x_loose : Int32) (x_onward : Nat → Int32) (x_takers : Nat → Int32) (y_number : Int32) (y_placeNumber : Int32) (y_places : Nat → Int32) (y_firsts : Nat → Int32) (y_wholes : Nat → Int32) (y_taken : Nat → Int32) (y_behinds : Nat → Int32) (z_kinds : Nat → Int32) (K : Int32 → Int32 → (Nat → Int32) → (Nat → Int32) → Prop) : Prop :=
    wp_X5_makeTakers x_takers y_placeNumber y_taken (fun x_takers_1 =>
    wp_J7_fill_53178 10 x_onward (nI 0) (fun x_onward_2 =>
    ∀ E125_6 : Int32 → Int32 → (Nat → Int32) → Prop,
    (∀ (x_firsts_3 : Int32) (x_loose_4 : Int32) (x_onward_5 : Nat → Int32), 
      (K x_firsts_3 x_loose_4 x_onward_5 x_takers_1) →
     E125_6 x_firsts_3 x_loose_4 x_onward_5) →
    ∃ n : Nat, lp_X5_make_25 y_number y_placeNumber y_places y_firsts y_wholes y_behinds z_kinds E125_6 n (nI 0) (nI 0) (nI 0) x_onward_2))

def wp_X8_forget (x_areFound : Int32) (K : Int32 → Prop) : Prop :=
    K (nI 0)

def wp_X6_letterAt (x_length : Int32) (x_line : Nat → Int32) (p1 : Int32) (K : Int32 → Prop) : Prop :=
    (p1 < 0 →
      K (nI 0)) ∧
    (¬ p1 < 0 →
      (x_length ≤ p1 →
        K (nI 0)) ∧
      (¬ x_length ≤ p1 →
        vp_in p1 30 ∧
        K (x_line p1.toNatClampNeg)))

def wp_X6_classOf (x_classes : Nat → Int32) (p1 : Int32) (K : Int32 → Prop) : Prop :=
    wp_X9_isLetter p1 (fun r_1 =>
    (r_1 = 0 →
      K (nI 0)) ∧
    (¬ r_1 = 0 →
      vp_in p1 26 ∧
      K (x_classes p1.toNatClampNeg)))

def wp_X6_classAt (x_length : Int32) (x_classes : Nat → Int32) (x_line : Nat → Int32) (p1 : Int32) (K : Int32 → Prop) : Prop :=
    wp_X6_letterAt x_length x_line p1 (fun r_1 =>
    wp_X6_classOf x_classes r_1 (fun r_2 =>
    K r_2))

def lp_X5_goOn_28 (x_onward : Nat → Int32) (x_takers : Nat → Int32) (q1 : Int32) (q2 : Int32) (E67 : Int32 → Prop) : Nat → Int32 → Int32 → Prop
  | 0, _, _ => False
  | n + 1, v3, v4 =>
    ((nI 10) ≤ v4 →
      E67 v3) ∧
    (¬ (nI 10) ≤ v4 →
      (((q1 >>> (v4 &&& 31)) &&& (nI 1)) = 0 →
        ∀ v4_6 : Int32, v4_6 = v4 + (nI 1) →
        lp_X5_goOn_28 x_onward x_takers q1 q2 E67 n v3 v4_6) ∧
      (¬ ((q1 >>> (v4 &&& 31)) &&& (nI 1)) = 0 →
        vp_in v4 10 ∧
        vp_in q2 6 ∧
        ∀ v3_7 : Int32, v3_7 = v3 ||| ((x_onward v4.toNatClampNeg) &&& (x_takers q2.toNatClampNeg)) →
        ∀ v4_8 : Int32, v4_8 = v4 + (nI 1) →
        lp_X5_goOn_28 x_onward x_takers q1 q2 E67 n v3_7 v4_8))
def wp_X5_goOn (x_loose : Int32) (x_onward : Nat → Int32) (x_takers : Nat → Int32) (p1 : Int32) (p2 : Int32) (K : Int32 → Prop) : Prop :=
    wp_X9_isClass p2 (fun r_1 =>
    (¬ r_1 = 0 →
      ∀ J24_3 : Int32 → Prop,
      (∀ (s0_2 : Int32), 
        (∀ E67_5 : Int32 → Prop,
        (∀ (v3_4 : Int32), 
          (K v3_4) →
         E67_5 v3_4) →
        ∃ n : Nat, lp_X5_goOn_28 x_onward x_takers p1 p2 E67_5 n s0_2 (nI 0)) →
       J24_3 s0_2) →
      (¬ p2 = (nI 5) →
          J24_3 (nI 0)) ∧
        (p2 = (nI 5) →
          J24_3 (p1 &&& x_loose))) ∧
    (r_1 = 0 →
      K (nI 0)))

def wp_X5_begunBy (x_firsts : Int32) (x_takers : Nat → Int32) (p1 : Int32) (K : Int32 → Prop) : Prop :=
    wp_X9_isClass p1 (fun r_1 =>
    (r_1 = 0 →
      K (nI 0)) ∧
    (¬ r_1 = 0 →
      vp_in p1 6 ∧
      K (x_firsts &&& (x_takers p1.toNatClampNeg))))

def lp_X3_read_26 (x_length : Int32) (y_length : Int32) (y_classes : Nat → Int32) (y_line : Nat → Int32) (z_firsts : Int32) (z_loose : Int32) (z_onward : Nat → Int32) (z_takers : Nat → Int32) (q3 : Int32) (E100 : Int32 → (Nat → Int32) → Prop) : Nat → Int32 → Int32 → Int32 → (Nat → Int32) → Prop
  | 0, _, _, _, _ => False
  | n + 1, v4, v5, x_bounds, x_stands =>
    (x_length ≤ v5 →
      E100 x_bounds x_stands) ∧
    (¬ x_length ≤ v5 →
      wp_X6_classAt y_length y_classes y_line v5 (fun r_6 =>
      wp_X5_goOn z_loose z_onward z_takers v4 r_6 (fun r_7 =>
      (¬ r_7 = 0 →
        vp_in (v5 + (nI 1)) 31 ∧
        ∀ x_stands_8 : Nat → Int32, x_stands_8 = upd x_stands (v5 + (nI 1)).toNatClampNeg r_7 →
        ∀ v5_9 : Int32, v5_9 = v5 + (nI 1) →
        lp_X3_read_26 x_length y_length y_classes y_line z_firsts z_loose z_onward z_takers q3 E100 n r_7 v5_9 x_bounds x_stands_8) ∧
      (r_7 = 0 →
        ∀ x_bounds_10 : Int32, x_bounds_10 = x_bounds ||| ((nI 1) <<< (v5 &&& 31)) →
        wp_X5_begunBy z_firsts z_takers r_6 (fun r_11 =>
        ∀ v4_12 : Int32, v4_12 = r_11 &&& (q3 ^^^ (-1)) →
        vp_in (v5 + (nI 1)) 31 ∧
        ∀ x_stands_13 : Nat → Int32, x_stands_13 = upd x_stands (v5 + (nI 1)).toNatClampNeg v4_12 →
        ∀ v5_14 : Int32, v5_14 = v5 + (nI 1) →
        lp_X3_read_26 x_length y_length y_classes y_line z_firsts z_loose z_onward z_takers q3 E100 n v4_12 v5_14 x_bounds_10 x_stands_13)))))
def wp_X3_read (x_length : Int32) (x_bounds : Int32) (x_stands : Nat → Int32) (y_length : Int32) (y_classes : Nat → Int32) (y_line : Nat → Int32) (z_firsts : Int32) (z_loose : Int32) (z_onward : Nat → Int32) (z_takers : Nat → Int32) (p3 : Int32) (K : Int32 → Int32 → (Nat → Int32) → Prop) : Prop :=
    wp_X6_length y_length (fun r_1 =>
    ∀ x_bounds_2 : Int32, x_bounds_2 = (nI 1) ||| ((nI 1) <<< (r_1 &&& 31)) →
    ∀ E100_5 : Int32 → (Nat → Int32) → Prop,
    (∀ (x_bounds_3 : Int32) (x_stands_4 : Nat → Int32), 
      (K r_1 x_bounds_3 x_stands_4) →
     E100_5 x_bounds_3 x_stands_4) →
    ∃ n : Nat, lp_X3_read_26 r_1 y_length y_classes y_line z_firsts z_loose z_onward z_takers p3 E100_5 n (nI 0) (nI 0) x_bounds_2 x_stands)

def wp_X9_lineHasChanged (x_now_length : Int32) (x_now_classes : Nat → Int32) (x_now_line : Nat → Int32) (x_steps_firsts : Int32) (x_steps_loose : Int32) (x_steps_onward : Nat → Int32) (x_steps_takers : Nat → Int32) (x_pieces_length : Int32) (x_pieces_bounds : Int32) (x_pieces_stands : Nat → Int32) (K : Int32 → Int32 → (Nat → Int32) → Prop) : Prop :=
    wp_X3_read x_pieces_length x_pieces_bounds x_pieces_stands x_now_length x_now_classes x_now_line x_steps_firsts x_steps_loose x_steps_onward x_steps_takers (nI 0) (fun x_pieces_length_1 x_pieces_bounds_2 x_pieces_stands_3 =>
    K x_pieces_length_1 x_pieces_bounds_2 x_pieces_stands_3)

def wp_X9_rulesHaveChanged (x_rules_number : Int32) (x_rules_placeNumber : Int32) (x_rules_places : Nat → Int32) (x_rules_firsts : Nat → Int32) (x_rules_wholes : Nat → Int32) (x_rules_taken : Nat → Int32) (x_rules_behinds : Nat → Int32) (x_now_length : Int32) (x_now_classes : Nat → Int32) (x_now_kinds : Nat → Int32) (x_now_line : Nat → Int32) (x_steps_firsts : Int32) (x_steps_loose : Int32) (x_steps_onward : Nat → Int32) (x_steps_takers : Nat → Int32) (x_pieces_length : Int32) (x_pieces_bounds : Int32) (x_pieces_stands : Nat → Int32) (x_ways_areFound : Int32) (K : Int32 → Int32 → (Nat → Int32) → (Nat → Int32) → Int32 → Int32 → (Nat → Int32) → Int32 → Prop) : Prop :=
    wp_X5_make x_steps_firsts x_steps_loose x_steps_onward x_steps_takers x_rules_number x_rules_placeNumber x_rules_places x_rules_firsts x_rules_wholes x_rules_taken x_rules_behinds x_now_kinds (fun x_steps_firsts_1 x_steps_loose_2 x_steps_onward_3 x_steps_takers_4 =>
    wp_X8_forget x_ways_areFound (fun x_ways_areFound_5 =>
    wp_X9_lineHasChanged x_now_length x_now_classes x_now_line x_steps_firsts_1 x_steps_loose_2 x_steps_onward_3 x_steps_takers_4 x_pieces_length x_pieces_bounds x_pieces_stands (fun x_pieces_length_6 x_pieces_bounds_7 x_pieces_stands_8 =>
    K x_steps_firsts_1 x_steps_loose_2 x_steps_onward_3 x_steps_takers_4 x_pieces_length_6 x_pieces_bounds_7 x_pieces_stands_8 x_ways_areFound_5)))

def lp_X9_layText_18 (x_text_length : Int32) (x_text_signs : Nat → Int32) (E59 : Int32 → Int32 → (Nat → Int32) → (Nat → Int32) → (Nat → Int32) → (Nat → Int32) → (Nat → Int32) → Int32 → (Nat → Int32) → (Nat → Int32) → (Nat → Int32) → Int32 → (Nat → Int32) → (Nat → Int32) → (Nat → Int32) → Prop) : Nat → Int32 → Int32 → Int32 → Int32 → (Nat → Int32) → (Nat → Int32) → (Nat → Int32) → (Nat → Int32) → (Nat → Int32) → Int32 → (Nat → Int32) → (Nat → Int32) → (Nat → Int32) → Int32 → (Nat → Int32) → (Nat → Int32) → (Nat → Int32) → Prop
  | 0, _, _, _, _, _, _, _, _, _, _, _, _, _, _, _, _, _ => False
  | n + 1, v1, v2, x_rules_number, x_rules_placeNumber, x_rules_places, x_rules_firsts, x_rules_wholes, x_rules_taken, x_rules_behinds, x_rules_parts_height, x_rules_parts_firsts, x_rules_parts_lasts, x_rules_parts_lacking, x_now_length, x_now_classes, x_now_kinds, x_now_line =>
    ((nI 200) ≤ v2 →
      E59 x_rules_number x_rules_placeNumber x_rules_places x_rules_firsts x_rules_wholes x_rules_taken x_rules_behinds x_rules_parts_height x_rules_parts_firsts x_rules_parts_lasts x_rules_parts_lacking x_now_length x_now_classes x_now_kinds x_now_line) ∧
    (¬ (nI 200) ≤ v2 →
      wp_X7_length x_text_length (fun r_31 =>
      (r_31 ≤ v1 →
        E59 x_rules_number x_rules_placeNumber x_rules_places x_rules_firsts x_rules_wholes x_rules_taken x_rules_behinds x_rules_parts_height x_rules_parts_firsts x_rules_parts_lasts x_rules_parts_lacking x_now_length x_now_classes x_now_kinds x_now_line) ∧
      (¬ r_31 ≤ v1 →
        wp_X7_tellItem x_text_length x_text_signs x_rules_number x_rules_placeNumber x_rules_places x_rules_firsts x_rules_wholes x_rules_taken x_rules_behinds x_rules_parts_height x_rules_parts_firsts x_rules_parts_lasts x_rules_parts_lacking x_now_length x_now_classes x_now_kinds x_now_line v1 (fun r_47 x_rules_number_32 x_rules_placeNumber_33 x_rules_places_34 x_rules_firsts_35 x_rules_wholes_36 x_rules_taken_37 x_rules_behinds_38 x_rules_parts_height_39 x_rules_parts_firsts_40 x_rules_parts_lasts_41 x_rules_parts_lacking_42 x_now_length_43 x_now_classes_44 x_now_kinds_45 x_now_line_46 =>
        ∀ v2_48 : Int32, v2_48 = v2 + (nI 1) →
        lp_X9_layText_18 x_text_length x_text_signs E59 n r_47 v2_48 x_rules_number_32 x_rules_placeNumber_33 x_rules_places_34 x_rules_firsts_35 x_rules_wholes_36 x_rules_taken_37 x_rules_behinds_38 x_rules_parts_height_39 x_rules_parts_firsts_40 x_rules_parts_lasts_41 x_rules_parts_lacking_42 x_now_length_43 x_now_classes_44 x_now_kinds_45 x_now_line_46))))
def wp_X9_layText (x_keptNumber : Int32) (x_text_length : Int32) (x_text_signs : Nat → Int32) (x_rules_number : Int32) (x_rules_placeNumber : Int32) (x_rules_places : Nat → Int32) (x_rules_firsts : Nat → Int32) (x_rules_wholes : Nat → Int32) (x_rules_taken : Nat → Int32) (x_rules_behinds : Nat → Int32) (x_rules_parts_height : Int32) (x_rules_parts_firsts : Nat → Int32) (x_rules_parts_lasts : Nat → Int32) (x_rules_parts_lacking : Nat → Int32) (x_now_length : Int32) (x_now_classes : Nat → Int32) (x_now_kinds : Nat → Int32) (x_now_line : Nat → Int32) (x_acts_number : Int32) (x_steps_firsts : Int32) (x_steps_loose : Int32) (x_steps_onward : Nat → Int32) (x_steps_takers : Nat → Int32) (x_pieces_length : Int32) (x_pieces_bounds : Int32) (x_pieces_stands : Nat → Int32) (x_ways_areFound : Int32) (K : Int32 → Int32 → Int32 → (Nat → Int32) → (Nat → Int32) → (Nat → Int32) → (Nat → Int32) → (Nat → Int32) → Int32 → (Nat → Int32) → (Nat → Int32) → (Nat → Int32) → Int32 → (Nat → Int32) → (Nat → Int32) → (Nat → Int32) → Int32 → Int32 → Int32 → (Nat → Int32) → (Nat → Int32) → Int32 → Int32 → (Nat → Int32) → Int32 → Prop) : Prop :=
    wp_X4_clear x_rules_number x_rules_placeNumber (fun x_rules_number_1 x_rules_placeNumber_2 =>
    wp_X6_clear x_now_length x_now_classes x_now_kinds (fun x_now_length_3 x_now_classes_4 x_now_kinds_5 =>
    ∀ E59_21 : Int32 → Int32 → (Nat → Int32) → (Nat → Int32) → (Nat → Int32) → (Nat → Int32) → (Nat → Int32) → Int32 → (Nat → Int32) → (Nat → Int32) → (Nat → Int32) → Int32 → (Nat → Int32) → (Nat → Int32) → (Nat → Int32) → Prop,
    (∀ (x_rules_number_6 : Int32) (x_rules_placeNumber_7 : Int32) (x_rules_places_8 : Nat → Int32) (x_rules_firsts_9 : Nat → Int32) (x_rules_wholes_10 : Nat → Int32) (x_rules_taken_11 : Nat → Int32) (x_rules_behinds_12 : Nat → Int32) (x_rules_parts_height_13 : Int32) (x_rules_parts_firsts_14 : Nat → Int32) (x_rules_parts_lasts_15 : Nat → Int32) (x_rules_parts_lacking_16 : Nat → Int32) (x_now_length_17 : Int32) (x_now_classes_18 : Nat → Int32) (x_now_kinds_19 : Nat → Int32) (x_now_line_20 : Nat → Int32), 
      (wp_X0_forget x_acts_number (fun x_acts_number_22 =>
      wp_X9_rulesHaveChanged x_rules_number_6 x_rules_placeNumber_7 x_rules_places_8 x_rules_firsts_9 x_rules_wholes_10 x_rules_taken_11 x_rules_behinds_12 x_now_length_17 x_now_classes_18 x_now_kinds_19 x_now_line_20 x_steps_firsts x_steps_loose x_steps_onward x_steps_takers x_pieces_length x_pieces_bounds x_pieces_stands x_ways_areFound (fun x_steps_firsts_23 x_steps_loose_24 x_steps_onward_25 x_steps_takers_26 x_pieces_length_27 x_pieces_bounds_28 x_pieces_stands_29 x_ways_areFound_30 =>
      K (nI 0) x_rules_number_6 x_rules_placeNumber_7 x_rules_places_8 x_rules_firsts_9 x_rules_wholes_10 x_rules_taken_11 x_rules_behinds_12 x_rules_parts_height_13 x_rules_parts_firsts_14 x_rules_parts_lasts_15 x_rules_parts_lacking_16 x_now_length_17 x_now_classes_18 x_now_kinds_19 x_now_line_20 x_acts_number_22 x_steps_firsts_23 x_steps_loose_24 x_steps_onward_25 x_steps_takers_26 x_pieces_length_27 x_pieces_bounds_28 x_pieces_stands_29 x_ways_areFound_30))) →
     E59_21 x_rules_number_6 x_rules_placeNumber_7 x_rules_places_8 x_rules_firsts_9 x_rules_wholes_10 x_rules_taken_11 x_rules_behinds_12 x_rules_parts_height_13 x_rules_parts_firsts_14 x_rules_parts_lasts_15 x_rules_parts_lacking_16 x_now_length_17 x_now_classes_18 x_now_kinds_19 x_now_line_20) →
    ∃ n : Nat, lp_X9_layText_18 x_text_length x_text_signs E59_21 n (nI 0) (nI 0) x_rules_number_1 x_rules_placeNumber_2 x_rules_places x_rules_firsts x_rules_wholes x_rules_taken x_rules_behinds x_rules_parts_height x_rules_parts_firsts x_rules_parts_lasts x_rules_parts_lacking x_now_length_3 x_now_classes_4 x_now_kinds_5 x_now_line))

def wp_X9_lay (x_keptNumber : Int32) (x_text_length : Int32) (x_text_rulesSeen : Int32) (x_text_placesSeen : Int32) (x_text_signs : Nat → Int32) (x_rules_number : Int32) (x_rules_placeNumber : Int32) (x_rules_places : Nat → Int32) (x_rules_firsts : Nat → Int32) (x_rules_wholes : Nat → Int32) (x_rules_taken : Nat → Int32) (x_rules_behinds : Nat → Int32) (x_rules_parts_height : Int32) (x_rules_parts_firsts : Nat → Int32) (x_rules_parts_lasts : Nat → Int32) (x_rules_parts_lacking : Nat → Int32) (x_now_length : Int32) (x_now_classes : Nat → Int32) (x_now_kinds : Nat → Int32) (x_now_line : Nat → Int32) (x_acts_number : Int32) (x_steps_firsts : Int32) (x_steps_loose : Int32) (x_steps_onward : Nat → Int32) (x_steps_takers : Nat → Int32) (x_pieces_length : Int32) (x_pieces_bounds : Int32) (x_pieces_stands : Nat → Int32) (x_ways_areFound : Int32) (K : Int32 → Int32 → Int32 → Int32 → Int32 → Int32 → (Nat → Int32) → (Nat → Int32) → (Nat → Int32) → (Nat → Int32) → (Nat → Int32) → Int32 → (Nat → Int32) → (Nat → Int32) → (Nat → Int32) → Int32 → (Nat → Int32) → (Nat → Int32) → (Nat → Int32) → Int32 → Int32 → Int32 → (Nat → Int32) → (Nat → Int32) → Int32 → Int32 → (Nat → Int32) → Int32 → Prop) : Prop :=
    wp_X7_firstFault x_text_length x_text_rulesSeen x_text_placesSeen x_text_signs (fun r_3 x_text_rulesSeen_1 x_text_placesSeen_2 =>
    (¬ r_3 = (-4) →
      K (-2) x_keptNumber x_text_rulesSeen_1 x_text_placesSeen_2 x_rules_number x_rules_placeNumber x_rules_places x_rules_firsts x_rules_wholes x_rules_taken x_rules_behinds x_rules_parts_height x_rules_parts_firsts x_rules_parts_lasts x_rules_parts_lacking x_now_length x_now_classes x_now_kinds x_now_line x_acts_number x_steps_firsts x_steps_loose x_steps_onward x_steps_takers x_pieces_length x_pieces_bounds x_pieces_stands x_ways_areFound) ∧
    (r_3 = (-4) →
      wp_X7_rulesSeen x_text_rulesSeen_1 (fun r_4 =>
      (¬ r_4 = 0 →
        wp_X9_layText x_keptNumber x_text_length x_text_signs x_rules_number x_rules_placeNumber x_rules_places x_rules_firsts x_rules_wholes x_rules_taken x_rules_behinds x_rules_parts_height x_rules_parts_firsts x_rules_parts_lasts x_rules_parts_lacking x_now_length x_now_classes x_now_kinds x_now_line x_acts_number x_steps_firsts x_steps_loose x_steps_onward x_steps_takers x_pieces_length x_pieces_bounds x_pieces_stands x_ways_areFound (fun x_keptNumber_5 x_rules_number_6 x_rules_placeNumber_7 x_rules_places_8 x_rules_firsts_9 x_rules_wholes_10 x_rules_taken_11 x_rules_behinds_12 x_rules_parts_height_13 x_rules_parts_firsts_14 x_rules_parts_lasts_15 x_rules_parts_lacking_16 x_now_length_17 x_now_classes_18 x_now_kinds_19 x_now_line_20 x_acts_number_21 x_steps_firsts_22 x_steps_loose_23 x_steps_onward_24 x_steps_takers_25 x_pieces_length_26 x_pieces_bounds_27 x_pieces_stands_28 x_ways_areFound_29 =>
        wp_X4_number x_rules_number_6 (fun r_30 =>
        K r_30 x_keptNumber_5 x_text_rulesSeen_1 x_text_placesSeen_2 x_rules_number_6 x_rules_placeNumber_7 x_rules_places_8 x_rules_firsts_9 x_rules_wholes_10 x_rules_taken_11 x_rules_behinds_12 x_rules_parts_height_13 x_rules_parts_firsts_14 x_rules_parts_lasts_15 x_rules_parts_lacking_16 x_now_length_17 x_now_classes_18 x_now_kinds_19 x_now_line_20 x_acts_number_21 x_steps_firsts_22 x_steps_loose_23 x_steps_onward_24 x_steps_takers_25 x_pieces_length_26 x_pieces_bounds_27 x_pieces_stands_28 x_ways_areFound_29))) ∧
      (r_4 = 0 →
        K (-2) x_keptNumber x_text_rulesSeen_1 x_text_placesSeen_2 x_rules_number x_rules_placeNumber x_rules_places x_rules_firsts x_rules_wholes x_rules_taken x_rules_behinds x_rules_parts_height x_rules_parts_firsts x_rules_parts_lasts x_rules_parts_lacking x_now_length x_now_classes x_now_kinds x_now_line x_acts_number x_steps_firsts x_steps_loose x_steps_onward x_steps_takers x_pieces_length x_pieces_bounds x_pieces_stands x_ways_areFound))))

def wp_X9_isRule (x_rules_number : Int32) (p1 : Int32) (K : Int32 → Prop) : Prop :=
    (p1 < 0 →
      K (nI 0)) ∧
    (¬ p1 < 0 →
      wp_X4_number x_rules_number (fun r_1 =>
      (r_1 ≤ p1 →
        K (nI 0)) ∧
      (¬ r_1 ≤ p1 →
        K (nI 1))))

def wp_X9_rule (x_rules_number : Int32) (x_rules_places : Nat → Int32) (x_rules_firsts : Nat → Int32) (x_rules_wholes : Nat → Int32) (x_now_kinds : Nat → Int32) (p1 : Int32) (p2 : Int32) (K : Int32 → Prop) : Prop :=
    wp_X9_isRule x_rules_number p1 (fun r_1 =>
    (r_1 = 0 →
      K (-1)) ∧
    (¬ r_1 = 0 →
      (p2 < 0 →
        K (-1)) ∧
      (¬ p2 < 0 →
        (p2 ≤ (nI 3) →
          (p2 = (nI 0) →
            wp_X6_kindOf x_now_kinds p1 (fun r_2 =>
            K r_2)) ∧
          (¬ p2 = (nI 0) →
            (p2 = (nI 1) →
              wp_X4_placesOf x_rules_number x_rules_places p1 (fun r_3 =>
              K r_3)) ∧
            (¬ p2 = (nI 1) →
              (p2 = (nI 2) →
                wp_X4_firstOf x_rules_number x_rules_firsts p1 (fun r_4 =>
                K r_4)) ∧
              (¬ p2 = (nI 2) →
                wp_X4_wholeOf x_rules_number x_rules_wholes p1 (fun r_5 =>
                K r_5))))) ∧
        (¬ p2 ≤ (nI 3) →
          K (-1)))))

def wp_X9_place (x_rules_placeNumber : Int32) (x_rules_taken : Nat → Int32) (x_rules_behinds : Nat → Int32) (p1 : Int32) (p2 : Int32) (K : Int32 → Prop) : Prop :=
    (p1 < 0 →
      K (-1)) ∧
    (¬ p1 < 0 →
      wp_X4_placeNumber x_rules_placeNumber (fun r_1 =>
      (r_1 ≤ p1 →
        K (-1)) ∧
      (¬ r_1 ≤ p1 →
        (p2 < 0 →
          K (-1)) ∧
        (¬ p2 < 0 →
          (p2 ≤ (nI 1) →
            (¬ p2 = 0 →
              wp_X4_behind x_rules_placeNumber x_rules_behinds p1 (fun r_2 =>
              K r_2)) ∧
            (p2 = 0 →
              wp_X4_takenAt x_rules_placeNumber x_rules_taken p1 (fun r_3 =>
              K r_3))) ∧
          (¬ p2 ≤ (nI 1) →
            K (-1))))))

def wp_X9_kind (x_now_classes : Nat → Int32) (p1 : Int32) (K : Int32 → Prop) : Prop :=
    wp_X9_isLetter p1 (fun r_1 =>
    (r_1 = 0 →
      K (-1)) ∧
    (¬ r_1 = 0 →
      wp_X6_classOf x_now_classes p1 (fun r_2 =>
      K r_2)))

def wp_X9_isPlaceOfLine (x_now_length : Int32) (p1 : Int32) (K : Int32 → Prop) : Prop :=
    (p1 < 0 →
      K (nI 0)) ∧
    (¬ p1 < 0 →
      wp_X6_length x_now_length (fun r_1 =>
      (r_1 < p1 →
        K (nI 0)) ∧
      (¬ r_1 < p1 →
        K (nI 1))))

def wp_X9_letter (x_now_length : Int32) (x_now_line : Nat → Int32) (p1 : Int32) (K : Int32 → Prop) : Prop :=
    wp_X9_isPlaceOfLine x_now_length p1 (fun r_1 =>
    (¬ r_1 = 0 →
      wp_X6_length x_now_length (fun r_2 =>
      (¬ p1 = r_2 →
        wp_X6_letterAt x_now_length x_now_line p1 (fun r_3 =>
        K r_3)) ∧
      (p1 = r_2 →
        K (-4)))) ∧
    (r_1 = 0 →
      K (-1)))

def wp_X0_dropOldest (x_number : Int32) (x_acts : Nat → Int32) (x_wheres : Nat → Int32) (x_befores : Nat → Int32) (K : Int32 → (Nat → Int32) → (Nat → Int32) → (Nat → Int32) → Prop) : Prop :=
    ¬ (nI 1) < 0 ∧ ¬ (nI 0) < 0 ∧ ¬ (nI 7) < 0 ∧ (nI 1).toNatClampNeg + (nI 7).toNatClampNeg ≤ 8 ∧ (nI 0).toNatClampNeg + (nI 7).toNatClampNeg ≤ 8 ∧
    ∀ x_acts_1 : Nat → Int32, x_acts_1 = va_cpy x_acts x_acts (nI 1).toNatClampNeg (nI 0).toNatClampNeg (nI 7).toNatClampNeg →
    ¬ (nI 1) < 0 ∧ ¬ (nI 0) < 0 ∧ ¬ (nI 7) < 0 ∧ (nI 1).toNatClampNeg + (nI 7).toNatClampNeg ≤ 8 ∧ (nI 0).toNatClampNeg + (nI 7).toNatClampNeg ≤ 8 ∧
    ∀ x_wheres_2 : Nat → Int32, x_wheres_2 = va_cpy x_wheres x_wheres (nI 1).toNatClampNeg (nI 0).toNatClampNeg (nI 7).toNatClampNeg →
    ¬ (nI 1) < 0 ∧ ¬ (nI 0) < 0 ∧ ¬ (nI 7) < 0 ∧ (nI 1).toNatClampNeg + (nI 7).toNatClampNeg ≤ 8 ∧ (nI 0).toNatClampNeg + (nI 7).toNatClampNeg ≤ 8 ∧
    ∀ x_befores_3 : Nat → Int32, x_befores_3 = va_cpy x_befores x_befores (nI 1).toNatClampNeg (nI 0).toNatClampNeg (nI 7).toNatClampNeg →
    K (nI 7) x_acts_1 x_wheres_2 x_befores_3

def wp_X0_note (x_number : Int32) (x_acts : Nat → Int32) (x_wheres : Nat → Int32) (x_befores : Nat → Int32) (p1 : Int32) (p2 : Int32) (p3 : Int32) (K : Int32 → (Nat → Int32) → (Nat → Int32) → (Nat → Int32) → Prop) : Prop :=
    ∀ J13_5 : Int32 → (Nat → Int32) → (Nat → Int32) → (Nat → Int32) → Prop,
    (∀ (x_number_1 : Int32) (x_acts_2 : Nat → Int32) (x_wheres_3 : Nat → Int32) (x_befores_4 : Nat → Int32), 
      (vp_in x_number_1 8 ∧
      ∀ x_acts_6 : Nat → Int32, x_acts_6 = upd x_acts_2 x_number_1.toNatClampNeg p1 →
      vp_in x_number_1 8 ∧
      ∀ x_wheres_7 : Nat → Int32, x_wheres_7 = upd x_wheres_3 x_number_1.toNatClampNeg p2 →
      vp_in x_number_1 8 ∧
      ∀ x_befores_8 : Nat → Int32, x_befores_8 = upd x_befores_4 x_number_1.toNatClampNeg p3 →
      ∀ x_number_9 : Int32, x_number_9 = x_number_1 + (nI 1) →
      K x_number_9 x_acts_6 x_wheres_7 x_befores_8) →
     J13_5 x_number_1 x_acts_2 x_wheres_3 x_befores_4) →
    (x_number < (nI 8) →
        J13_5 x_number x_acts x_wheres x_befores) ∧
      (¬ x_number < (nI 8) →
        wp_X0_dropOldest x_number x_acts x_wheres x_befores (fun x_number_10 x_acts_11 x_wheres_12 x_befores_13 =>
        J13_5 x_number_10 x_acts_11 x_wheres_12 x_befores_13))

def wp_X9_insert (x_now_length : Int32) (x_now_classes : Nat → Int32) (x_now_line : Nat → Int32) (x_acts_number : Int32) (x_acts_acts : Nat → Int32) (x_acts_wheres : Nat → Int32) (x_acts_befores : Nat → Int32) (x_steps_firsts : Int32) (x_steps_loose : Int32) (x_steps_onward : Nat → Int32) (x_steps_takers : Nat → Int32) (x_pieces_length : Int32) (x_pieces_bounds : Int32) (x_pieces_stands : Nat → Int32) (p1 : Int32) (p2 : Int32) (K : Int32 → Int32 → (Nat → Int32) → Int32 → (Nat → Int32) → (Nat → Int32) → (Nat → Int32) → Int32 → Int32 → (Nat → Int32) → Prop) : Prop :=
    wp_X9_isPlaceOfLine x_now_length p1 (fun r_1 =>
    (r_1 = 0 →
      K (-1) x_now_length x_now_line x_acts_number x_acts_acts x_acts_wheres x_acts_befores x_pieces_length x_pieces_bounds x_pieces_stands) ∧
    (¬ r_1 = 0 →
      wp_X9_isLetter p2 (fun r_2 =>
      (¬ r_2 = 0 →
        wp_X6_length x_now_length (fun r_3 =>
        (r_3 < (nI 30) →
          wp_X6_putIn x_now_length x_now_line p1 p2 (fun x_now_length_4 x_now_line_5 =>
          wp_X0_note x_acts_number x_acts_acts x_acts_wheres x_acts_befores (nI 0) p1 p2 (fun x_acts_number_6 x_acts_acts_7 x_acts_wheres_8 x_acts_befores_9 =>
          wp_X9_lineHasChanged x_now_length_4 x_now_classes x_now_line_5 x_steps_firsts x_steps_loose x_steps_onward x_steps_takers x_pieces_length x_pieces_bounds x_pieces_stands (fun x_pieces_length_10 x_pieces_bounds_11 x_pieces_stands_12 =>
          wp_X6_length x_now_length_4 (fun r_13 =>
          K r_13 x_now_length_4 x_now_line_5 x_acts_number_6 x_acts_acts_7 x_acts_wheres_8 x_acts_befores_9 x_pieces_length_10 x_pieces_bounds_11 x_pieces_stands_12))))) ∧
        (¬ r_3 < (nI 30) →
          K (-3) x_now_length x_now_line x_acts_number x_acts_acts x_acts_wheres x_acts_befores x_pieces_length x_pieces_bounds x_pieces_stands))) ∧
      (r_2 = 0 →
        K (-1) x_now_length x_now_line x_acts_number x_acts_acts x_acts_wheres x_acts_befores x_pieces_length x_pieces_bounds x_pieces_stands))))

def lp_X6_takeOut_25 (x_length : Int32) (E53 : (Nat → Int32) → Prop) : Nat → Int32 → (Nat → Int32) → Prop
  | 0, _, _ => False
  | n + 1, v2, x_line =>
    (x_length ≤ v2 →
      E53 x_line) ∧
    (¬ x_length ≤ v2 →
      vp_in (v2 + (nI 1)) 30 ∧
      ∀ t_4 : Int32, t_4 = x_line (v2 + (nI 1)).toNatClampNeg →
      vp_in v2 30 ∧
      ∀ x_line_5 : Nat → Int32, x_line_5 = upd x_line v2.toNatClampNeg t_4 →
      ∀ v2_6 : Int32, v2_6 = v2 + (nI 1) →
      lp_X6_takeOut_25 x_length E53 n v2_6 x_line_5)
def wp_X6_takeOut (x_length : Int32) (x_line : Nat → Int32) (p1 : Int32) (K : Int32 → (Nat → Int32) → Prop) : Prop :=
    (p1 < 0 →
      K x_length x_line) ∧
    (¬ p1 < 0 →
      (p1 < x_length →
        ∀ x_length_1 : Int32, x_length_1 = x_length - (nI 1) →
        ∀ E53_3 : (Nat → Int32) → Prop,
        (∀ (x_line_2 : Nat → Int32), 
          (K x_length_1 x_line_2) →
         E53_3 x_line_2) →
        ∃ n : Nat, lp_X6_takeOut_25 x_length_1 E53_3 n p1 x_line) ∧
      (¬ p1 < x_length →
        K x_length x_line))

def wp_X9_erase (x_now_length : Int32) (x_now_classes : Nat → Int32) (x_now_line : Nat → Int32) (x_acts_number : Int32) (x_acts_acts : Nat → Int32) (x_acts_wheres : Nat → Int32) (x_acts_befores : Nat → Int32) (x_steps_firsts : Int32) (x_steps_loose : Int32) (x_steps_onward : Nat → Int32) (x_steps_takers : Nat → Int32) (x_pieces_length : Int32) (x_pieces_bounds : Int32) (x_pieces_stands : Nat → Int32) (p1 : Int32) (K : Int32 → Int32 → (Nat → Int32) → Int32 → (Nat → Int32) → (Nat → Int32) → (Nat → Int32) → Int32 → Int32 → (Nat → Int32) → Prop) : Prop :=
    (p1 < 0 →
      K (-1) x_now_length x_now_line x_acts_number x_acts_acts x_acts_wheres x_acts_befores x_pieces_length x_pieces_bounds x_pieces_stands) ∧
    (¬ p1 < 0 →
      wp_X6_length x_now_length (fun r_1 =>
      (p1 < r_1 →
        wp_X6_letterAt x_now_length x_now_line p1 (fun r_2 =>
        wp_X6_takeOut x_now_length x_now_line p1 (fun x_now_length_3 x_now_line_4 =>
        wp_X0_note x_acts_number x_acts_acts x_acts_wheres x_acts_befores (nI 1) p1 r_2 (fun x_acts_number_5 x_acts_acts_6 x_acts_wheres_7 x_acts_befores_8 =>
        wp_X9_lineHasChanged x_now_length_3 x_now_classes x_now_line_4 x_steps_firsts x_steps_loose x_steps_onward x_steps_takers x_pieces_length x_pieces_bounds x_pieces_stands (fun x_pieces_length_9 x_pieces_bounds_10 x_pieces_stands_11 =>
        K r_2 x_now_length_3 x_now_line_4 x_acts_number_5 x_acts_acts_6 x_acts_wheres_7 x_acts_befores_8 x_pieces_length_9 x_pieces_bounds_10 x_pieces_stands_11))))) ∧
      (¬ p1 < r_1 →
        K (-1) x_now_length x_now_line x_acts_number x_acts_acts x_acts_wheres x_acts_befores x_pieces_length x_pieces_bounds x_pieces_stands)))

def wp_X9_tell (x_now_length : Int32) (x_now_classes : Nat → Int32) (x_now_line : Nat → Int32) (x_acts_number : Int32) (x_acts_acts : Nat → Int32) (x_acts_wheres : Nat → Int32) (x_acts_befores : Nat → Int32) (x_steps_firsts : Int32) (x_steps_loose : Int32) (x_steps_onward : Nat → Int32) (x_steps_takers : Nat → Int32) (x_pieces_length : Int32) (x_pieces_bounds : Int32) (x_pieces_stands : Nat → Int32) (p1 : Int32) (p2 : Int32) (K : Int32 → (Nat → Int32) → Int32 → (Nat → Int32) → (Nat → Int32) → (Nat → Int32) → Int32 → Int32 → (Nat → Int32) → Prop) : Prop :=
    wp_X9_isLetter p1 (fun r_1 =>
    (r_1 = 0 →
      K (-1) x_now_classes x_acts_number x_acts_acts x_acts_wheres x_acts_befores x_pieces_length x_pieces_bounds x_pieces_stands) ∧
    (¬ r_1 = 0 →
      wp_X9_isClass p2 (fun r_2 =>
      (¬ r_2 = 0 →
        wp_X6_classOf x_now_classes p1 (fun r_3 =>
        (¬ r_3 = p2 →
          wp_X6_setClass x_now_classes p1 p2 (fun x_now_classes_4 =>
          wp_X0_note x_acts_number x_acts_acts x_acts_wheres x_acts_befores (nI 2) p1 r_3 (fun x_acts_number_5 x_acts_acts_6 x_acts_wheres_7 x_acts_befores_8 =>
          wp_X9_lineHasChanged x_now_length x_now_classes_4 x_now_line x_steps_firsts x_steps_loose x_steps_onward x_steps_takers x_pieces_length x_pieces_bounds x_pieces_stands (fun x_pieces_length_9 x_pieces_bounds_10 x_pieces_stands_11 =>
          K r_3 x_now_classes_4 x_acts_number_5 x_acts_acts_6 x_acts_wheres_7 x_acts_befores_8 x_pieces_length_9 x_pieces_bounds_10 x_pieces_stands_11)))) ∧
        (r_3 = p2 →
          K (-2) x_now_classes x_acts_number x_acts_acts x_acts_wheres x_acts_befores x_pieces_length x_pieces_bounds x_pieces_stands))) ∧
      (r_2 = 0 →
        K (-1) x_now_classes x_acts_number x_acts_acts x_acts_wheres x_acts_befores x_pieces_length x_pieces_bounds x_pieces_stands))))

def wp_X9_rename (x_rules_number : Int32) (x_rules_placeNumber : Int32) (x_rules_places : Nat → Int32) (x_rules_firsts : Nat → Int32) (x_rules_wholes : Nat → Int32) (x_rules_taken : Nat → Int32) (x_rules_behinds : Nat → Int32) (x_now_length : Int32) (x_now_classes : Nat → Int32) (x_now_kinds : Nat → Int32) (x_now_line : Nat → Int32) (x_acts_number : Int32) (x_acts_acts : Nat → Int32) (x_acts_wheres : Nat → Int32) (x_acts_befores : Nat → Int32) (x_steps_firsts : Int32) (x_steps_loose : Int32) (x_steps_onward : Nat → Int32) (x_steps_takers : Nat → Int32) (x_pieces_length : Int32) (x_pieces_bounds : Int32) (x_pieces_stands : Nat → Int32) (x_ways_areFound : Int32) (p1 : Int32) (p2 : Int32) (K : Int32 → (Nat → Int32) → Int32 → (Nat → Int32) → (Nat → Int32) → (Nat → Int32) → Int32 → Int32 → (Nat → Int32) → (Nat → Int32) → Int32 → Int32 → (Nat → Int32) → Int32 → Prop) : Prop :=
    wp_X9_isRule x_rules_number p1 (fun r_1 =>
    (r_1 = 0 →
      K (-1) x_now_kinds x_acts_number x_acts_acts x_acts_wheres x_acts_befores x_steps_firsts x_steps_loose x_steps_onward x_steps_takers x_pieces_length x_pieces_bounds x_pieces_stands x_ways_areFound) ∧
    (¬ r_1 = 0 →
      (p2 < 0 →
        K (-1) x_now_kinds x_acts_number x_acts_acts x_acts_wheres x_acts_befores x_steps_firsts x_steps_loose x_steps_onward x_steps_takers x_pieces_length x_pieces_bounds x_pieces_stands x_ways_areFound) ∧
      (¬ p2 < 0 →
        (p2 < (nI 4) →
          wp_X6_kindOf x_now_kinds p1 (fun r_2 =>
          (¬ r_2 = p2 →
            wp_X6_setKind x_now_kinds p1 p2 (fun x_now_kinds_3 =>
            wp_X0_note x_acts_number x_acts_acts x_acts_wheres x_acts_befores (nI 3) p1 r_2 (fun x_acts_number_4 x_acts_acts_5 x_acts_wheres_6 x_acts_befores_7 =>
            wp_X9_rulesHaveChanged x_rules_number x_rules_placeNumber x_rules_places x_rules_firsts x_rules_wholes x_rules_taken x_rules_behinds x_now_length x_now_classes x_now_kinds_3 x_now_line x_steps_firsts x_steps_loose x_steps_onward x_steps_takers x_pieces_length x_pieces_bounds x_pieces_stands x_ways_areFound (fun x_steps_firsts_8 x_steps_loose_9 x_steps_onward_10 x_steps_takers_11 x_pieces_length_12 x_pieces_bounds_13 x_pieces_stands_14 x_ways_areFound_15 =>
            K r_2 x_now_kinds_3 x_acts_number_4 x_acts_acts_5 x_acts_wheres_6 x_acts_befores_7 x_steps_firsts_8 x_steps_loose_9 x_steps_onward_10 x_steps_takers_11 x_pieces_length_12 x_pieces_bounds_13 x_pieces_stands_14 x_ways_areFound_15)))) ∧
          (r_2 = p2 →
            K (-2) x_now_kinds x_acts_number x_acts_acts x_acts_wheres x_acts_befores x_steps_firsts x_steps_loose x_steps_onward x_steps_takers x_pieces_length x_pieces_bounds x_pieces_stands x_ways_areFound))) ∧
        (¬ p2 < (nI 4) →
          K (-1) x_now_kinds x_acts_number x_acts_acts x_acts_wheres x_acts_befores x_steps_firsts x_steps_loose x_steps_onward x_steps_takers x_pieces_length x_pieces_bounds x_pieces_stands x_ways_areFound))))

def wp_X0_number (x_number : Int32) (K : Int32 → Prop) : Prop :=
    K x_number

def wp_X0_takeBackFrom (x_number : Int32) (x_acts : Nat → Int32) (x_wheres : Nat → Int32) (x_befores : Nat → Int32) (y_length : Int32) (y_classes : Nat → Int32) (y_kinds : Nat → Int32) (y_line : Nat → Int32) (K : Int32 → Int32 → Int32 → (Nat → Int32) → (Nat → Int32) → (Nat → Int32) → Prop) : Prop :=
    (0 < x_number →
      ∀ x_number_1 : Int32, x_number_1 = x_number - (nI 1) →
      vp_in x_number_1 8 ∧
      ∀ v2_2 : Int32, v2_2 = x_wheres x_number_1.toNatClampNeg →
      vp_in x_number_1 8 ∧
      ∀ v3_3 : Int32, v3_3 = x_befores x_number_1.toNatClampNeg →
      vp_in x_number_1 8 ∧
      ∀ sw_4 : Int32, sw_4 = x_acts x_number_1.toNatClampNeg →
      (sw_4 = (nI 0) →
        wp_X6_takeOut y_length y_line v2_2 (fun y_length_5 y_line_6 =>
        K (nI 0) x_number_1 y_length_5 y_classes y_kinds y_line_6)) ∧
      (¬ sw_4 = (nI 0) →
        (sw_4 = (nI 1) →
          wp_X6_putIn y_length y_line v2_2 v3_3 (fun y_length_7 y_line_8 =>
          K (nI 0) x_number_1 y_length_7 y_classes y_kinds y_line_8)) ∧
        (¬ sw_4 = (nI 1) →
          (sw_4 = (nI 2) →
            wp_X6_setClass y_classes v2_2 v3_3 (fun y_classes_9 =>
            K (nI 0) x_number_1 y_length y_classes_9 y_kinds y_line)) ∧
          (¬ sw_4 = (nI 2) →
            wp_X6_setKind y_kinds v2_2 v3_3 (fun y_kinds_10 =>
            K (nI 1) x_number_1 y_length y_classes y_kinds_10 y_line))))) ∧
    (¬ 0 < x_number →
      K (nI 0) x_number y_length y_classes y_kinds y_line)

def wp_X9_undo (x_rules_number : Int32) (x_rules_placeNumber : Int32) (x_rules_places : Nat → Int32) (x_rules_firsts : Nat → Int32) (x_rules_wholes : Nat → Int32) (x_rules_taken : Nat → Int32) (x_rules_behinds : Nat → Int32) (x_now_length : Int32) (x_now_classes : Nat → Int32) (x_now_kinds : Nat → Int32) (x_now_line : Nat → Int32) (x_acts_number : Int32) (x_acts_acts : Nat → Int32) (x_acts_wheres : Nat → Int32) (x_acts_befores : Nat → Int32) (x_steps_firsts : Int32) (x_steps_loose : Int32) (x_steps_onward : Nat → Int32) (x_steps_takers : Nat → Int32) (x_pieces_length : Int32) (x_pieces_bounds : Int32) (x_pieces_stands : Nat → Int32) (x_ways_areFound : Int32) (K : Int32 → Int32 → (Nat → Int32) → (Nat → Int32) → (Nat → Int32) → Int32 → Int32 → Int32 → (Nat → Int32) → (Nat → Int32) → Int32 → Int32 → (Nat → Int32) → Int32 → Prop) : Prop :=
    wp_X0_number x_acts_number (fun r_1 =>
    (¬ r_1 = 0 →
      wp_X0_takeBackFrom x_acts_number x_acts_acts x_acts_wheres x_acts_befores x_now_length x_now_classes x_now_kinds x_now_line (fun r_7 x_acts_number_2 x_now_length_3 x_now_classes_4 x_now_kinds_5 x_now_line_6 =>
      ∀ J38_16 : Int32 → Int32 → (Nat → Int32) → (Nat → Int32) → Int32 → Int32 → (Nat → Int32) → Int32 → Prop,
      (∀ (x_steps_firsts_8 : Int32) (x_steps_loose_9 : Int32) (x_steps_onward_10 : Nat → Int32) (x_steps_takers_11 : Nat → Int32) (x_pieces_length_12 : Int32) (x_pieces_bounds_13 : Int32) (x_pieces_stands_14 : Nat → Int32) (x_ways_areFound_15 : Int32), 
        (wp_X0_number x_acts_number_2 (fun r_17 =>
        K r_17 x_now_length_3 x_now_classes_4 x_now_kinds_5 x_now_line_6 x_acts_number_2 x_steps_firsts_8 x_steps_loose_9 x_steps_onward_10 x_steps_takers_11 x_pieces_length_12 x_pieces_bounds_13 x_pieces_stands_14 x_ways_areFound_15)) →
       J38_16 x_steps_firsts_8 x_steps_loose_9 x_steps_onward_10 x_steps_takers_11 x_pieces_length_12 x_pieces_bounds_13 x_pieces_stands_14 x_ways_areFound_15) →
      (r_7 = 0 →
          wp_X9_lineHasChanged x_now_length_3 x_now_classes_4 x_now_line_6 x_steps_firsts x_steps_loose x_steps_onward x_steps_takers x_pieces_length x_pieces_bounds x_pieces_stands (fun x_pieces_length_18 x_pieces_bounds_19 x_pieces_stands_20 =>
          J38_16 x_steps_firsts x_steps_loose x_steps_onward x_steps_takers x_pieces_length_18 x_pieces_bounds_19 x_pieces_stands_20 x_ways_areFound)) ∧
        (¬ r_7 = 0 →
          wp_X9_rulesHaveChanged x_rules_number x_rules_placeNumber x_rules_places x_rules_firsts x_rules_wholes x_rules_taken x_rules_behinds x_now_length_3 x_now_classes_4 x_now_kinds_5 x_now_line_6 x_steps_firsts x_steps_loose x_steps_onward x_steps_takers x_pieces_length x_pieces_bounds x_pieces_stands x_ways_areFound (fun x_steps_firsts_21 x_steps_loose_22 x_steps_onward_23 x_steps_takers_24 x_pieces_length_25 x_pieces_bounds_26 x_pieces_stands_27 x_ways_areFound_28 =>
          J38_16 x_steps_firsts_21 x_steps_loose_22 x_steps_onward_23 x_steps_takers_24 x_pieces_length_25 x_pieces_bounds_26 x_pieces_stands_27 x_ways_areFound_28)))) ∧
    (r_1 = 0 →
      K (-2) x_now_length x_now_classes x_now_kinds x_now_line x_acts_number x_steps_firsts x_steps_loose x_steps_onward x_steps_takers x_pieces_length x_pieces_bounds x_pieces_stands x_ways_areFound))

def wp_X3_hasBound (x_bounds : Int32) (p1 : Int32) (K : Int32 → Prop) : Prop :=
    (((x_bounds >>> (p1 &&& 31)) &&& (nI 1)) = 0 →
      K (nI 0)) ∧
    (¬ ((x_bounds >>> (p1 &&& 31)) &&& (nI 1)) = 0 →
      K (nI 1))

def wp_X9_isBoundary (x_now_length : Int32) (x_pieces_bounds : Int32) (p1 : Int32) (K : Int32 → Prop) : Prop :=
    wp_X9_isPlaceOfLine x_now_length p1 (fun r_1 =>
    (¬ r_1 = 0 →
      wp_X3_hasBound x_pieces_bounds p1 (fun r_2 =>
      (r_2 = 0 →
        K (nI 0)) ∧
      (¬ r_2 = 0 →
        K (nI 1)))) ∧
    (r_1 = 0 →
      K (-1)))

def lp_X3_boundBehind_4 (x_length : Int32) (x_bounds : Int32) (E20 : Int32 → Prop) (E28 : Prop) : Nat → Int32 → Prop
  | 0, _ => False
  | n + 1, v2 =>
    (x_length < v2 →
      E28) ∧
    (¬ x_length < v2 →
      wp_X3_hasBound x_bounds v2 (fun r_5 =>
      (r_5 = 0 →
        ∀ v2_6 : Int32, v2_6 = v2 + (nI 1) →
        lp_X3_boundBehind_4 x_length x_bounds E20 E28 n v2_6) ∧
      (¬ r_5 = 0 →
        E20 v2)))
def wp_X3_boundBehind (x_length : Int32) (x_bounds : Int32) (p1 : Int32) (K : Int32 → Prop) : Prop :=
    ∀ v2_1 : Int32, v2_1 = p1 + (nI 1) →
    ∀ E20_3 : Int32 → Prop,
    (∀ (v2_2 : Int32), 
      (K v2_2) →
     E20_3 v2_2) →
    ∀ E28_4 : Prop,
      (
        (K (-4)) →
       E28_4) →
      ∃ n : Nat, lp_X3_boundBehind_4 x_length x_bounds E20_3 E28_4 n v2_1

def lp_X3_boundAhead_4 (x_bounds : Int32) (E16 : Int32 → Prop) (E24 : Prop) : Nat → Int32 → Prop
  | 0, _ => False
  | n + 1, v2 =>
    (v2 < 0 →
      E24) ∧
    (¬ v2 < 0 →
      wp_X3_hasBound x_bounds v2 (fun r_5 =>
      (r_5 = 0 →
        ∀ v2_6 : Int32, v2_6 = v2 + (-1) →
        lp_X3_boundAhead_4 x_bounds E16 E24 n v2_6) ∧
      (¬ r_5 = 0 →
        E16 v2)))
def wp_X3_boundAhead (x_bounds : Int32) (p1 : Int32) (K : Int32 → Prop) : Prop :=
    ∀ v2_1 : Int32, v2_1 = p1 - (nI 1) →
    ∀ E16_3 : Int32 → Prop,
    (∀ (v2_2 : Int32), 
      (K v2_2) →
     E16_3 v2_2) →
    ∀ E24_4 : Prop,
      (
        (K (-4)) →
       E24_4) →
      ∃ n : Nat, lp_X3_boundAhead_4 x_bounds E16_3 E24_4 n v2_1

def wp_X9_boundary (x_now_length : Int32) (x_pieces_length : Int32) (x_pieces_bounds : Int32) (p1 : Int32) (p2 : Int32) (K : Int32 → Prop) : Prop :=
    wp_X9_isPlaceOfLine x_now_length p1 (fun r_1 =>
    (r_1 = 0 →
      K (-1)) ∧
    (¬ r_1 = 0 →
      (p2 < 0 →
        K (-1)) ∧
      (¬ p2 < 0 →
        (p2 ≤ (nI 1) →
          (¬ p2 = 0 →
            wp_X3_boundAhead x_pieces_bounds p1 (fun r_2 =>
            K r_2)) ∧
          (p2 = 0 →
            wp_X3_boundBehind x_pieces_length x_pieces_bounds p1 (fun r_3 =>
            K r_3))) ∧
        (¬ p2 ≤ (nI 1) →
          K (-1)))))

def wp_X3_standAt (x_length : Int32) (x_stands : Nat → Int32) (p1 : Int32) (K : Int32 → Prop) : Prop :=
    (p1 < 0 →
      K (nI 0)) ∧
    (¬ p1 < 0 →
      (x_length < p1 →
        K (nI 0)) ∧
      (¬ x_length < p1 →
        vp_in p1 31 ∧
        K (x_stands p1.toNatClampNeg)))

def wp_X9_stand (x_now_length : Int32) (x_pieces_length : Int32) (x_pieces_stands : Nat → Int32) (p1 : Int32) (K : Int32 → Prop) : Prop :=
    wp_X9_isPlaceOfLine x_now_length p1 (fun r_1 =>
    (¬ r_1 = 0 →
      (¬ p1 = 0 →
        wp_X3_standAt x_pieces_length x_pieces_stands p1 (fun r_2 =>
        K r_2)) ∧
      (p1 = 0 →
        K (-4))) ∧
    (r_1 = 0 →
      K (-1)))

def wp_J6_bitCount_0f7a4 (p0 : Int32) (K : Int32 → Prop) : Prop :=
    ∀ v0_1 : Int32, v0_1 = p0 - (((p0.toUInt32 >>> ((nI 1).toUInt32 &&& Int32.toUInt32 31)).toInt32) &&& (nI 1431655765)) →
    ∀ v0_2 : Int32, v0_2 = (v0_1 &&& (nI 858993459)) + (((v0_1.toUInt32 >>> ((nI 2).toUInt32 &&& Int32.toUInt32 31)).toInt32) &&& (nI 858993459)) →
    ∀ v0_3 : Int32, v0_3 = (v0_2 + ((v0_2.toUInt32 >>> ((nI 4).toUInt32 &&& Int32.toUInt32 31)).toInt32)) &&& (nI 252645135) →
    ∀ v0_4 : Int32, v0_4 = v0_3 + ((v0_3.toUInt32 >>> ((nI 8).toUInt32 &&& Int32.toUInt32 31)).toInt32) →
    ∀ v0_5 : Int32, v0_5 = v0_4 + ((v0_4.toUInt32 >>> ((nI 16).toUInt32 &&& Int32.toUInt32 31)).toInt32) →
    K (v0_5 &&& (nI 63))

def wp_X3_number (x_bounds : Int32) (K : Int32 → Prop) : Prop :=
    wp_J6_bitCount_0f7a4 x_bounds (fun r_1 =>
    K (r_1 - (nI 1)))

def lp_X3_beginning_4 (x_length : Int32) (x_bounds : Int32) (q1 : Int32) (E21 : Int32 → Prop) : Nat → Int32 → Int32 → Prop
  | 0, _, _ => False
  | n + 1, v2, v3 =>
    (q1 ≤ v3 →
      E21 v2) ∧
    (¬ q1 ≤ v3 →
      wp_X3_boundBehind x_length x_bounds v2 (fun r_3 =>
      ∀ v3_4 : Int32, v3_4 = v3 + (nI 1) →
      lp_X3_beginning_4 x_length x_bounds q1 E21 n r_3 v3_4))
def wp_X3_beginning (x_length : Int32) (x_bounds : Int32) (p1 : Int32) (K : Int32 → Prop) : Prop :=
    ∀ E21_2 : Int32 → Prop,
    (∀ (v2_1 : Int32), 
      (K v2_1) →
     E21_2 v2_1) →
    ∃ n : Nat, lp_X3_beginning_4 x_length x_bounds p1 E21_2 n (nI 0) (nI 0)

def lp_X4_withPlaceIn_4 (x_number : Int32) (x_places : Nat → Int32) (q1 : Int32) (E35 : Int32 → Prop) : Nat → Int32 → Int32 → Prop
  | 0, _, _ => False
  | n + 1, v2, v3 =>
    (x_number ≤ v3 →
      E35 v2) ∧
    (¬ x_number ≤ v3 →
      vp_in v3 4 ∧
      (((x_places v3.toNatClampNeg) &&& q1) = 0 →
        ∀ v3_3 : Int32, v3_3 = v3 + (nI 1) →
        lp_X4_withPlaceIn_4 x_number x_places q1 E35 n v2 v3_3) ∧
      (¬ ((x_places v3.toNatClampNeg) &&& q1) = 0 →
        ∀ v2_4 : Int32, v2_4 = v2 ||| ((nI 1) <<< (v3 &&& 31)) →
        ∀ v3_5 : Int32, v3_5 = v3 + (nI 1) →
        lp_X4_withPlaceIn_4 x_number x_places q1 E35 n v2_4 v3_5))
def wp_X4_withPlaceIn (x_number : Int32) (x_places : Nat → Int32) (p1 : Int32) (K : Int32 → Prop) : Prop :=
    ∀ E35_2 : Int32 → Prop,
    (∀ (v2_1 : Int32), 
      (K v2_1) →
     E35_2 v2_1) →
    ∃ n : Nat, lp_X4_withPlaceIn_4 x_number x_places p1 E35_2 n (nI 0) (nI 0)

def lp_X4_wholeIn_4 (x_number : Int32) (x_wholes : Nat → Int32) (q1 : Int32) (E35 : Int32 → Prop) : Nat → Int32 → Int32 → Prop
  | 0, _, _ => False
  | n + 1, v2, v3 =>
    (x_number ≤ v3 →
      E35 v2) ∧
    (¬ x_number ≤ v3 →
      vp_in v3 4 ∧
      (((x_wholes v3.toNatClampNeg) &&& q1) = 0 →
        ∀ v3_3 : Int32, v3_3 = v3 + (nI 1) →
        lp_X4_wholeIn_4 x_number x_wholes q1 E35 n v2 v3_3) ∧
      (¬ ((x_wholes v3.toNatClampNeg) &&& q1) = 0 →
        ∀ v2_4 : Int32, v2_4 = v2 ||| ((nI 1) <<< (v3 &&& 31)) →
        ∀ v3_5 : Int32, v3_5 = v3 + (nI 1) →
        lp_X4_wholeIn_4 x_number x_wholes q1 E35 n v2_4 v3_5))
def wp_X4_wholeIn (x_number : Int32) (x_wholes : Nat → Int32) (p1 : Int32) (K : Int32 → Prop) : Prop :=
    ∀ E35_2 : Int32 → Prop,
    (∀ (v2_1 : Int32), 
      (K v2_1) →
     E35_2 v2_1) →
    ∃ n : Nat, lp_X4_wholeIn_4 x_number x_wholes p1 E35_2 n (nI 0) (nI 0)

def wp_X9_piece (x_rules_number : Int32) (x_rules_places : Nat → Int32) (x_rules_wholes : Nat → Int32) (x_pieces_length : Int32) (x_pieces_bounds : Int32) (x_pieces_stands : Nat → Int32) (p1 : Int32) (p2 : Int32) (K : Int32 → Prop) : Prop :=
    (p1 < 0 →
      K (-1)) ∧
    (¬ p1 < 0 →
      wp_X3_number x_pieces_bounds (fun r_1 =>
      (r_1 ≤ p1 →
        K (-1)) ∧
      (¬ r_1 ≤ p1 →
        (p2 < 0 →
          K (-1)) ∧
        (¬ p2 < 0 →
          (p2 ≤ (nI 3) →
            wp_X3_beginning x_pieces_length x_pieces_bounds p1 (fun r_2 =>
            wp_X3_boundBehind x_pieces_length x_pieces_bounds r_2 (fun r_3 =>
            (p2 = (nI 0) →
              K r_2) ∧
            (¬ p2 = (nI 0) →
              (p2 = (nI 1) →
                K (r_3 - r_2)) ∧
              (¬ p2 = (nI 1) →
                (p2 = (nI 2) →
                  wp_X3_standAt x_pieces_length x_pieces_stands r_3 (fun r_4 =>
                  wp_X4_wholeIn x_rules_number x_rules_wholes r_4 (fun r_5 =>
                  K r_5))) ∧
                (¬ p2 = (nI 2) →
                  wp_X3_standAt x_pieces_length x_pieces_stands r_3 (fun r_6 =>
                  wp_X4_withPlaceIn x_rules_number x_rules_places r_6 (fun r_7 =>
                  K r_7)))))))) ∧
          (¬ p2 ≤ (nI 3) →
            K (-1))))))

def wp_X8_numberFor (x_number : Int32) (x_stands : Nat → Int32) (x_fewest : Nat → Int32) (x_numberOf : Nat → Int32) (p1 : Int32) (p2 : Int32) (K : Int32 → Int32 → (Nat → Int32) → (Nat → Int32) → (Nat → Int32) → Prop) : Prop :=
    ∀ v3_1 : Int32, v3_1 = p1 &&& (nI 1023) →
    vp_in v3_1 1024 ∧
    (¬ (x_numberOf v3_1.toNatClampNeg) = (-4) →
      vp_in v3_1 1024 ∧
      K (x_numberOf v3_1.toNatClampNeg) x_number x_stands x_fewest x_numberOf) ∧
    ((x_numberOf v3_1.toNatClampNeg) = (-4) →
      ((nI 1024) ≤ x_number →
        vp_in v3_1 1024 ∧
        K (x_numberOf v3_1.toNatClampNeg) x_number x_stands x_fewest x_numberOf) ∧
      (¬ (nI 1024) ≤ x_number →
        vp_in x_number 1024 ∧
        ∀ x_stands_2 : Nat → Int32, x_stands_2 = upd x_stands x_number.toNatClampNeg v3_1 →
        vp_in x_number 1024 ∧
        ∀ x_fewest_3 : Nat → Int32, x_fewest_3 = upd x_fewest x_number.toNatClampNeg p2 →
        vp_in v3_1 1024 ∧
        ∀ x_numberOf_4 : Nat → Int32, x_numberOf_4 = upd x_numberOf v3_1.toNatClampNeg x_number →
        ∀ x_number_5 : Int32, x_number_5 = x_number + (nI 1) →
        vp_in v3_1 1024 ∧
        K (x_numberOf_4 v3_1.toNatClampNeg) x_number_5 x_stands_2 x_fewest_3 x_numberOf_4))

def wp_X1_groupBehind (n_b : Nat) (x_groups : Nat → Int32) (y : Nat → Int32) (p2 : Int32) (p3 : Int32) (K : Int32 → Prop) : Prop :=
    ∀ v4_1 : Int32, v4_1 = (p2 * (nI 6)) + p3 →
    ∀ J28_3 : Int32 → Prop,
    (∀ (s0_2 : Int32), 
      ((s0_2 < 0 →
        K (-1)) ∧
      (¬ s0_2 < 0 →
        ((nI 1024) ≤ s0_2 →
          K (-1)) ∧
        (¬ (nI 1024) ≤ s0_2 →
          vp_in s0_2 1024 ∧
          K (x_groups s0_2.toNatClampNeg)))) →
     J28_3 s0_2) →
    ∀ J27_4 : Prop,
      (
        (J28_3 (-1)) →
       J27_4) →
      (v4_1 < 0 →
          J27_4) ∧
        (¬ v4_1 < 0 →
          ((nI n_b) ≤ v4_1 →
            J27_4) ∧
          (¬ (nI n_b) ≤ v4_1 →
            vp_in v4_1 n_b ∧
            J28_3 (y v4_1.toNatClampNeg)))

def lp_X1_bucketOf_5 (n_b : Nat) (x_groups : Nat → Int32) (y : Nat → Int32) (q2 : Int32) (E34 : Int32 → Prop) : Nat → Int32 → Int32 → Prop
  | 0, _, _ => False
  | n + 1, v3, v4 =>
    ((nI 6) ≤ v4 →
      E34 v3) ∧
    (¬ (nI 6) ≤ v4 →
      wp_X1_groupBehind n_b x_groups y q2 v4 (fun r_3 =>
      ∀ v3_4 : Int32, v3_4 = ((v3 * (nI 31)) + r_3) + (nI 1) →
      ∀ v4_5 : Int32, v4_5 = v4 + (nI 1) →
      lp_X1_bucketOf_5 n_b x_groups y q2 E34 n v3_4 v4_5))
def wp_X1_bucketOf (n_b : Nat) (x_groups : Nat → Int32) (y : Nat → Int32) (p2 : Int32) (K : Int32 → Prop) : Prop :=
    ∀ E34_2 : Int32 → Prop,
    (∀ (v3_1 : Int32), 
      (K ((v3_1 ^^^ ((v3_1.toUInt32 >>> ((nI 15).toUInt32 &&& Int32.toUInt32 31)).toInt32)) &&& (nI 2047))) →
     E34_2 v3_1) →
    ∃ n : Nat, lp_X1_bucketOf_5 n_b x_groups y p2 E34_2 n (nI 0) (nI 0)

def lp_X1_doTheSame_3 (n_b : Nat) (x_groups : Nat → Int32) (y : Nat → Int32) (q2 : Int32) (q3 : Int32) (E29 : Prop) (E37 : Prop) : Nat → Int32 → Prop
  | 0, _ => False
  | n + 1, v4 =>
    ((nI 6) ≤ v4 →
      E37) ∧
    (¬ (nI 6) ≤ v4 →
      wp_X1_groupBehind n_b x_groups y q2 v4 (fun r_3 =>
      wp_X1_groupBehind n_b x_groups y q3 v4 (fun r_4 =>
      (r_3 = r_4 →
        ∀ v4_5 : Int32, v4_5 = v4 + (nI 1) →
        lp_X1_doTheSame_3 n_b x_groups y q2 q3 E29 E37 n v4_5) ∧
      (¬ r_3 = r_4 →
        E29))))
def wp_X1_doTheSame (n_b : Nat) (x_groups : Nat → Int32) (y : Nat → Int32) (p2 : Int32) (p3 : Int32) (K : Int32 → Prop) : Prop :=
    ∀ E29_1 : Prop,
    (
      (K (nI 0)) →
     E29_1) →
    ∀ E37_2 : Prop,
      (
        (K (nI 1)) →
       E37_2) →
      ∃ n : Nat, lp_X1_doTheSame_3 n_b x_groups y p2 p3 E29_1 E37_2 n (nI 0)

def lp_X1_firstLike_11 (n_b : Nat) (x_groups : Nat → Int32) (x_chains : Nat → Int32) (y : Nat → Int32) (q2 : Int32) (E36 : Int32 → Prop) (E54 : Prop) : Nat → Int32 → Int32 → Prop
  | 0, _, _ => False
  | n + 1, v4, v5 =>
    ((nI 1024) ≤ v5 →
      E54) ∧
    (¬ (nI 1024) ≤ v5 →
      (v4 = (-1) →
        E54) ∧
      (¬ v4 = (-1) →
        wp_X1_doTheSame n_b x_groups y v4 q2 (fun r_5 =>
        (r_5 = 0 →
          vp_in v4 1024 ∧
          ∀ v4_6 : Int32, v4_6 = x_chains v4.toNatClampNeg →
          ∀ v5_7 : Int32, v5_7 = v5 + (nI 1) →
          lp_X1_firstLike_11 n_b x_groups x_chains y q2 E36 E54 n v4_6 v5_7) ∧
        (¬ r_5 = 0 →
          E36 v4))))
def wp_X1_firstLike (n_b : Nat) (x_groups : Nat → Int32) (x_buckets : Nat → Int32) (x_chains : Nat → Int32) (y : Nat → Int32) (p2 : Int32) (p3 : Int32) (K : Int32 → Prop) : Prop :=
    vp_in p3 2048 ∧
    ∀ v4_1 : Int32, v4_1 = x_buckets p3.toNatClampNeg →
    ∀ E36_3 : Int32 → Prop,
    (∀ (v4_2 : Int32), 
      (K v4_2) →
     E36_3 v4_2) →
    ∀ E54_4 : Prop,
      (
        (K (-1)) →
       E54_4) →
      ∃ n : Nat, lp_X1_firstLike_11 n_b x_groups x_chains y p2 E36_3 E54_4 n v4_1 (nI 0)

def lp_X1_partFiner_13 (n_b : Nat) (x_groups : Nat → Int32) (y : Nat → Int32) (q2 : Int32) (E110 : Int32 → (Nat → Int32) → (Nat → Int32) → (Nat → Int32) → Prop) : Nat → Int32 → Int32 → (Nat → Int32) → (Nat → Int32) → (Nat → Int32) → Prop
  | 0, _, _, _, _, _ => False
  | n + 1, v3, v4, x_finer, x_buckets, x_chains =>
    (q2 ≤ v4 →
      E110 v3 x_finer x_buckets x_chains) ∧
    (¬ q2 ≤ v4 →
      ((nI 1024) ≤ v4 →
        E110 v3 x_finer x_buckets x_chains) ∧
      (¬ (nI 1024) ≤ v4 →
        wp_X1_bucketOf n_b x_groups y v4 (fun r_8 =>
        wp_X1_firstLike n_b x_groups x_buckets x_chains y v4 r_8 (fun r_9 =>
        (¬ r_9 = (-1) →
          vp_in r_9 1024 ∧
          ∀ t_10 : Int32, t_10 = x_finer r_9.toNatClampNeg →
          vp_in v4 1024 ∧
          ∀ x_finer_11 : Nat → Int32, x_finer_11 = upd x_finer v4.toNatClampNeg t_10 →
          ∀ v4_12 : Int32, v4_12 = v4 + (nI 1) →
          lp_X1_partFiner_13 n_b x_groups y q2 E110 n v3 v4_12 x_finer_11 x_buckets x_chains) ∧
        (r_9 = (-1) →
          vp_in v4 1024 ∧
          ∀ x_finer_13 : Nat → Int32, x_finer_13 = upd x_finer v4.toNatClampNeg v3 →
          ∀ v3_14 : Int32, v3_14 = v3 + (nI 1) →
          vp_in r_8 2048 ∧
          ∀ t_15 : Int32, t_15 = x_buckets r_8.toNatClampNeg →
          vp_in v4 1024 ∧
          ∀ x_chains_16 : Nat → Int32, x_chains_16 = upd x_chains v4.toNatClampNeg t_15 →
          vp_in r_8 2048 ∧
          ∀ x_buckets_17 : Nat → Int32, x_buckets_17 = upd x_buckets r_8.toNatClampNeg v4 →
          ∀ v4_18 : Int32, v4_18 = v4 + (nI 1) →
          lp_X1_partFiner_13 n_b x_groups y q2 E110 n v3_14 v4_18 x_finer_13 x_buckets_17 x_chains_16)))))
def wp_X1_partFiner (n_b : Nat) (x_groups : Nat → Int32) (x_finer : Nat → Int32) (x_buckets : Nat → Int32) (x_chains : Nat → Int32) (y : Nat → Int32) (p2 : Int32) (K : Int32 → (Nat → Int32) → (Nat → Int32) → (Nat → Int32) → (Nat → Int32) → Prop) : Prop :=
    wp_J7_fill_53178 2048 x_buckets (-1) (fun x_buckets_1 =>
    ∀ E110_6 : Int32 → (Nat → Int32) → (Nat → Int32) → (Nat → Int32) → Prop,
    (∀ (v3_2 : Int32) (x_finer_3 : Nat → Int32) (x_buckets_4 : Nat → Int32) (x_chains_5 : Nat → Int32), 
      (¬ (nI 0) < 0 ∧ ¬ (nI 0) < 0 ∧ ¬ (nI 1024) < 0 ∧ (nI 0).toNatClampNeg + (nI 1024).toNatClampNeg ≤ 1024 ∧ (nI 0).toNatClampNeg + (nI 1024).toNatClampNeg ≤ 1024 ∧
      ∀ x_groups_7 : Nat → Int32, x_groups_7 = va_cpy x_finer_3 x_groups (nI 0).toNatClampNeg (nI 0).toNatClampNeg (nI 1024).toNatClampNeg →
      K v3_2 x_groups_7 x_finer_3 x_buckets_4 x_chains_5) →
     E110_6 v3_2 x_finer_3 x_buckets_4 x_chains_5) →
    ∃ n : Nat, lp_X1_partFiner_13 n_b x_groups y p2 E110_6 n (nI 0) (nI 0) x_finer x_buckets_1 x_chains)

def lp_X1_part_13 (n_b : Nat) (y : Nat → Int32) (q2 : Int32) (E37 : Int32 → (Nat → Int32) → (Nat → Int32) → (Nat → Int32) → (Nat → Int32) → Prop) (E46 : Int32 → (Nat → Int32) → (Nat → Int32) → (Nat → Int32) → (Nat → Int32) → Prop) : Nat → Int32 → Int32 → (Nat → Int32) → (Nat → Int32) → (Nat → Int32) → (Nat → Int32) → Prop
  | 0, _, _, _, _, _, _ => False
  | n + 1, v3, v4, x_groups, x_finer, x_buckets, x_chains =>
    ((nI 1024) ≤ v4 →
      E46 v3 x_groups x_finer x_buckets x_chains) ∧
    (¬ (nI 1024) ≤ v4 →
      wp_X1_partFiner n_b x_groups x_finer x_buckets x_chains y q2 (fun r_18 x_groups_14 x_finer_15 x_buckets_16 x_chains_17 =>
      (¬ r_18 = v3 →
        ∀ v4_19 : Int32, v4_19 = v4 + (nI 1) →
        lp_X1_part_13 n_b y q2 E37 E46 n r_18 v4_19 x_groups_14 x_finer_15 x_buckets_16 x_chains_17) ∧
      (r_18 = v3 →
        E37 r_18 x_groups_14 x_finer_15 x_buckets_16 x_chains_17)))
def wp_X1_part (n_b : Nat) (x_groups : Nat → Int32) (x_finer : Nat → Int32) (x_buckets : Nat → Int32) (x_chains : Nat → Int32) (y : Nat → Int32) (p2 : Int32) (K : Int32 → (Nat → Int32) → (Nat → Int32) → (Nat → Int32) → (Nat → Int32) → Prop) : Prop :=
    wp_J7_fill_53178 1024 x_groups (nI 0) (fun x_groups_1 =>
    ∀ E37_7 : Int32 → (Nat → Int32) → (Nat → Int32) → (Nat → Int32) → (Nat → Int32) → Prop,
    (∀ (v3_2 : Int32) (x_groups_3 : Nat → Int32) (x_finer_4 : Nat → Int32) (x_buckets_5 : Nat → Int32) (x_chains_6 : Nat → Int32), 
      (K v3_2 x_groups_3 x_finer_4 x_buckets_5 x_chains_6) →
     E37_7 v3_2 x_groups_3 x_finer_4 x_buckets_5 x_chains_6) →
    ∀ E46_13 : Int32 → (Nat → Int32) → (Nat → Int32) → (Nat → Int32) → (Nat → Int32) → Prop,
      (∀ (v3_8 : Int32) (x_groups_9 : Nat → Int32) (x_finer_10 : Nat → Int32) (x_buckets_11 : Nat → Int32) (x_chains_12 : Nat → Int32), 
        (K v3_8 x_groups_9 x_finer_10 x_buckets_11 x_chains_12) →
       E46_13 v3_8 x_groups_9 x_finer_10 x_buckets_11 x_chains_12) →
      ∃ n : Nat, lp_X1_part_13 n_b y p2 E37_7 E46_13 n (nI 1) (nI 0) x_groups_1 x_finer x_buckets x_chains)

def wp_X8_within (x_number : Int32) (x_nexts : Nat → Int32) (p1 : Int32) (p2 : Int32) (K : Int32 → Prop) : Prop :=
    (p1 < 0 →
      K (-1)) ∧
    (¬ p1 < 0 →
      (x_number ≤ p1 →
        K (-1)) ∧
      (¬ x_number ≤ p1 →
        wp_X9_isClass p2 (fun r_1 =>
        (r_1 = 0 →
          K (-1)) ∧
        (¬ r_1 = 0 →
          vp_in ((p1 * (nI 6)) + p2) 6144 ∧
          K (x_nexts ((p1 * (nI 6)) + p2).toNatClampNeg)))))

def wp_X8_behind (x_number : Int32) (x_nexts : Nat → Int32) (x_begun : Nat → Int32) (p1 : Int32) (p2 : Int32) (K : Int32 → Prop) : Prop :=
    wp_X8_within x_number x_nexts p1 p2 (fun r_1 =>
    (¬ r_1 = (-1) →
      K r_1) ∧
    (r_1 = (-1) →
      vp_in p2 6 ∧
      K (x_begun p2.toNatClampNeg)))

def lp_X8_leadTogether_15 (x_number : Int32) (x_nexts : Nat → Int32) (x_begun : Nat → Int32) (q1 : Int32) (q2 : Int32) (q3 : Int32) (E40 : Prop) (E48 : Prop) : Nat → Int32 → Prop
  | 0, _ => False
  | n + 1, v4 =>
    (x_number ≤ v4 →
      E48) ∧
    (¬ x_number ≤ v4 →
      wp_X8_behind x_number x_nexts x_begun v4 q1 (fun r_4 =>
      wp_X8_behind x_number x_nexts x_begun r_4 q2 (fun r_5 =>
      (r_5 = q3 →
        ∀ v4_6 : Int32, v4_6 = v4 + (nI 1) →
        lp_X8_leadTogether_15 x_number x_nexts x_begun q1 q2 q3 E40 E48 n v4_6) ∧
      (¬ r_5 = q3 →
        E40))))
def wp_X8_leadTogether (x_number : Int32) (x_nexts : Nat → Int32) (x_begun : Nat → Int32) (p1 : Int32) (p2 : Int32) (K : Int32 → Prop) : Prop :=
    vp_in p1 6 ∧
    wp_X8_behind x_number x_nexts x_begun (x_begun p1.toNatClampNeg) p2 (fun r_1 =>
    ∀ E40_2 : Prop,
    (
      (K (nI 0)) →
     E40_2) →
    ∀ E48_3 : Prop,
      (
        (K (nI 1)) →
       E48_3) →
      ∃ n : Nat, lp_X8_leadTogether_15 x_number x_nexts x_begun p1 p2 r_1 E40_2 E48_3 n (nI 0))

def lp_X8_findKnown_15 (x_number : Int32) (x_nexts : Nat → Int32) (x_begun : Nat → Int32) (q1 : Int32) (E72 : Int32 → (Nat → Int32) → Prop) : Nat → Int32 → Int32 → (Nat → Int32) → Prop
  | 0, _, _, _ => False
  | n + 1, v2, x_knownNumber, x_known =>
    ((nI 6) ≤ v2 →
      E72 x_knownNumber x_known) ∧
    (¬ (nI 6) ≤ v2 →
      wp_X8_leadTogether x_number x_nexts x_begun q1 v2 (fun r_8 =>
      vp_in ((q1 * (nI 6)) + v2) 36 ∧
      ∀ x_known_9 : Nat → Int32, x_known_9 = upd x_known ((q1 * (nI 6)) + v2).toNatClampNeg (vp_nar .boolean r_8) →
      vp_in ((q1 * (nI 6)) + v2) 36 ∧
      ((x_known_9 ((q1 * (nI 6)) + v2).toNatClampNeg) = 0 →
        ∀ x_knownNumber_10 : Int32, x_knownNumber_10 = x_knownNumber + (nI 0) →
        ∀ v2_11 : Int32, v2_11 = v2 + (nI 1) →
        lp_X8_findKnown_15 x_number x_nexts x_begun q1 E72 n v2_11 x_knownNumber_10 x_known_9) ∧
      (¬ (x_known_9 ((q1 * (nI 6)) + v2).toNatClampNeg) = 0 →
        ∀ x_knownNumber_12 : Int32, x_knownNumber_12 = x_knownNumber + (nI 1) →
        ∀ v2_13 : Int32, v2_13 = v2 + (nI 1) →
        lp_X8_findKnown_15 x_number x_nexts x_begun q1 E72 n v2_13 x_knownNumber_12 x_known_9)))
def lp_X8_findKnown_7 (x_number : Int32) (x_nexts : Nat → Int32) (x_begun : Nat → Int32) (E78 : Int32 → (Nat → Int32) → Prop) : Nat → Int32 → Int32 → (Nat → Int32) → Prop
  | 0, _, _, _ => False
  | n + 1, v1, x_knownNumber, x_known =>
    ((nI 6) ≤ v1 →
      E78 x_knownNumber x_known) ∧
    (¬ (nI 6) ≤ v1 →
      ∀ E72_6 : Int32 → (Nat → Int32) → Prop,
      (∀ (x_knownNumber_4 : Int32) (x_known_5 : Nat → Int32), 
        (∀ v1_7 : Int32, v1_7 = v1 + (nI 1) →
        lp_X8_findKnown_7 x_number x_nexts x_begun E78 n v1_7 x_knownNumber_4 x_known_5) →
       E72_6 x_knownNumber_4 x_known_5) →
      ∃ n : Nat, lp_X8_findKnown_15 x_number x_nexts x_begun v1 E72_6 n (nI 0) x_knownNumber x_known)
def wp_X8_findKnown (x_number : Int32) (x_knownNumber : Int32) (x_nexts : Nat → Int32) (x_begun : Nat → Int32) (x_known : Nat → Int32) (K : Int32 → (Nat → Int32) → Prop) : Prop :=
    ∀ E78_3 : Int32 → (Nat → Int32) → Prop,
    (∀ (x_knownNumber_1 : Int32) (x_known_2 : Nat → Int32), 
      (K x_knownNumber_1 x_known_2) →
     E78_3 x_knownNumber_1 x_known_2) →
    ∃ n : Nat, lp_X8_findKnown_7 x_number x_nexts x_begun E78_3 n (nI 0) (nI 0) x_known

def lp_X8_find_76 (y_loose : Int32) (y_onward : Nat → Int32) (y_takers : Nat → Int32) (q2 : Int32) (E135 : Int32 → (Nat → Int32) → (Nat → Int32) → (Nat → Int32) → (Nat → Int32) → Prop) : Nat → Int32 → Int32 → (Nat → Int32) → (Nat → Int32) → (Nat → Int32) → (Nat → Int32) → Prop
  | 0, _, _, _, _, _, _ => False
  | n + 1, v3, x_number, x_stands, x_fewest, x_numberOf, x_nexts =>
    ((nI 6) ≤ v3 →
      E135 x_number x_stands x_fewest x_numberOf x_nexts) ∧
    (¬ (nI 6) ≤ v3 →
      vp_in q2 1024 ∧
      wp_X5_goOn y_loose y_onward y_takers (x_stands q2.toNatClampNeg) v3 (fun r_28 =>
      (¬ r_28 = 0 →
        vp_in q2 1024 ∧
        wp_X8_numberFor x_number x_stands x_fewest x_numberOf r_28 ((x_fewest q2.toNatClampNeg) + (nI 1)) (fun r_33 x_number_29 x_stands_30 x_fewest_31 x_numberOf_32 =>
        vp_in ((q2 * (nI 6)) + v3) 6144 ∧
        ∀ x_nexts_34 : Nat → Int32, x_nexts_34 = upd x_nexts ((q2 * (nI 6)) + v3).toNatClampNeg r_33 →
        ∀ v3_35 : Int32, v3_35 = v3 + (nI 1) →
        lp_X8_find_76 y_loose y_onward y_takers q2 E135 n v3_35 x_number_29 x_stands_30 x_fewest_31 x_numberOf_32 x_nexts_34)) ∧
      (r_28 = 0 →
        vp_in ((q2 * (nI 6)) + v3) 6144 ∧
        ∀ x_nexts_36 : Nat → Int32, x_nexts_36 = upd x_nexts ((q2 * (nI 6)) + v3).toNatClampNeg (-1) →
        ∀ v3_37 : Int32, v3_37 = v3 + (nI 1) →
        lp_X8_find_76 y_loose y_onward y_takers q2 E135 n v3_37 x_number x_stands x_fewest x_numberOf x_nexts_36)))
def lp_X8_find_59 (y_loose : Int32) (y_onward : Nat → Int32) (y_takers : Nat → Int32) (E141 : Int32 → (Nat → Int32) → (Nat → Int32) → (Nat → Int32) → (Nat → Int32) → Prop) : Nat → Int32 → Int32 → (Nat → Int32) → (Nat → Int32) → (Nat → Int32) → (Nat → Int32) → Prop
  | 0, _, _, _, _, _, _ => False
  | n + 1, v2, x_number, x_stands, x_fewest, x_numberOf, x_nexts =>
    (x_number ≤ v2 →
      E141 x_number x_stands x_fewest x_numberOf x_nexts) ∧
    (¬ x_number ≤ v2 →
      ((nI 1024) ≤ v2 →
        E141 x_number x_stands x_fewest x_numberOf x_nexts) ∧
      (¬ (nI 1024) ≤ v2 →
        ∀ E135_26 : Int32 → (Nat → Int32) → (Nat → Int32) → (Nat → Int32) → (Nat → Int32) → Prop,
        (∀ (x_number_21 : Int32) (x_stands_22 : Nat → Int32) (x_fewest_23 : Nat → Int32) (x_numberOf_24 : Nat → Int32) (x_nexts_25 : Nat → Int32), 
          (∀ v2_27 : Int32, v2_27 = v2 + (nI 1) →
          lp_X8_find_59 y_loose y_onward y_takers E141 n v2_27 x_number_21 x_stands_22 x_fewest_23 x_numberOf_24 x_nexts_25) →
         E135_26 x_number_21 x_stands_22 x_fewest_23 x_numberOf_24 x_nexts_25) →
        ∃ n : Nat, lp_X8_find_76 y_loose y_onward y_takers v2 E135_26 n (nI 0) x_number x_stands x_fewest x_numberOf x_nexts))
def lp_X8_find_29 (y_firsts : Int32) (y_takers : Nat → Int32) (E57 : Int32 → (Nat → Int32) → (Nat → Int32) → (Nat → Int32) → (Nat → Int32) → Prop) : Nat → Int32 → Int32 → (Nat → Int32) → (Nat → Int32) → (Nat → Int32) → (Nat → Int32) → Prop
  | 0, _, _, _, _, _, _ => False
  | n + 1, v2, x_number, x_stands, x_fewest, x_numberOf, x_begun =>
    ((nI 6) ≤ v2 →
      E57 x_number x_stands x_fewest x_numberOf x_begun) ∧
    (¬ (nI 6) ≤ v2 →
      wp_X5_begunBy y_firsts y_takers v2 (fun r_83 =>
      wp_X8_numberFor x_number x_stands x_fewest x_numberOf r_83 (nI 1) (fun r_88 x_number_84 x_stands_85 x_fewest_86 x_numberOf_87 =>
      vp_in v2 6 ∧
      ∀ x_begun_89 : Nat → Int32, x_begun_89 = upd x_begun v2.toNatClampNeg r_88 →
      ∀ v2_90 : Int32, v2_90 = v2 + (nI 1) →
      lp_X8_find_29 y_firsts y_takers E57 n v2_90 x_number_84 x_stands_85 x_fewest_86 x_numberOf_87 x_begun_89)))
def wp_X8_find (x_number : Int32) (x_unlikeNumber : Int32) (x_knownNumber : Int32) (x_areFound : Int32) (x_stands : Nat → Int32) (x_fewest : Nat → Int32) (x_numberOf : Nat → Int32) (x_nexts : Nat → Int32) (x_begun : Nat → Int32) (x_known : Nat → Int32) (x_groups_groups : Nat → Int32) (x_groups_finer : Nat → Int32) (x_groups_buckets : Nat → Int32) (x_groups_chains : Nat → Int32) (y_firsts : Int32) (y_loose : Int32) (y_onward : Nat → Int32) (y_takers : Nat → Int32) (K : Int32 → Int32 → Int32 → Int32 → (Nat → Int32) → (Nat → Int32) → (Nat → Int32) → (Nat → Int32) → (Nat → Int32) → (Nat → Int32) → (Nat → Int32) → (Nat → Int32) → (Nat → Int32) → (Nat → Int32) → Prop) : Prop :=
    (x_areFound = 0 →
      wp_J7_fill_53178 1024 x_numberOf (-4) (fun x_numberOf_1 =>
      ∀ E57_7 : Int32 → (Nat → Int32) → (Nat → Int32) → (Nat → Int32) → (Nat → Int32) → Prop,
      (∀ (x_number_2 : Int32) (x_stands_3 : Nat → Int32) (x_fewest_4 : Nat → Int32) (x_numberOf_5 : Nat → Int32) (x_begun_6 : Nat → Int32), 
        (∀ E141_13 : Int32 → (Nat → Int32) → (Nat → Int32) → (Nat → Int32) → (Nat → Int32) → Prop,
        (∀ (x_number_8 : Int32) (x_stands_9 : Nat → Int32) (x_fewest_10 : Nat → Int32) (x_numberOf_11 : Nat → Int32) (x_nexts_12 : Nat → Int32), 
          (wp_X1_part 6144 x_groups_groups x_groups_finer x_groups_buckets x_groups_chains x_nexts_12 x_number_8 (fun r_18 x_groups_groups_14 x_groups_finer_15 x_groups_buckets_16 x_groups_chains_17 =>
          wp_X8_findKnown x_number_8 x_knownNumber x_nexts_12 x_begun_6 x_known (fun x_knownNumber_19 x_known_20 =>
          K x_number_8 r_18 x_knownNumber_19 (nI 1) x_stands_9 x_fewest_10 x_numberOf_11 x_nexts_12 x_begun_6 x_known_20 x_groups_groups_14 x_groups_finer_15 x_groups_buckets_16 x_groups_chains_17))) →
         E141_13 x_number_8 x_stands_9 x_fewest_10 x_numberOf_11 x_nexts_12) →
        ∃ n : Nat, lp_X8_find_59 y_loose y_onward y_takers E141_13 n (nI 0) x_number_2 x_stands_3 x_fewest_4 x_numberOf_5 x_nexts) →
       E57_7 x_number_2 x_stands_3 x_fewest_4 x_numberOf_5 x_begun_6) →
      ∃ n : Nat, lp_X8_find_29 y_firsts y_takers E57_7 n (nI 0) (nI 0) x_stands x_fewest x_numberOf_1 x_begun)) ∧
    (¬ x_areFound = 0 →
      K x_number x_unlikeNumber x_knownNumber x_areFound x_stands x_fewest x_numberOf x_nexts x_begun x_known x_groups_groups x_groups_finer x_groups_buckets x_groups_chains)

def wp_X8_isKnown (x_known : Nat → Int32) (p1 : Int32) (p2 : Int32) (K : Int32 → Prop) : Prop :=
    wp_X9_isClass p1 (fun r_1 =>
    (r_1 = 0 →
      K (nI 0)) ∧
    (¬ r_1 = 0 →
      wp_X9_isClass p2 (fun r_2 =>
      (r_2 = 0 →
        K (nI 0)) ∧
      (¬ r_2 = 0 →
        vp_in ((p1 * (nI 6)) + p2) 36 ∧
        ((x_known ((p1 * (nI 6)) + p2).toNatClampNeg) = 0 →
          K (nI 0)) ∧
        (¬ (x_known ((p1 * (nI 6)) + p2).toNatClampNeg) = 0 →
          K (nI 1))))))

def lp_X9_backFrom_2 (x_now_length : Int32) (x_now_classes : Nat → Int32) (x_now_line : Nat → Int32) (x_ways_known : Nat → Int32) (E37 : Int32 → Prop) (E45 : Prop) : Nat → Int32 → Prop
  | 0, _ => False
  | n + 1, v2 =>
    (v2 < (nI 2) →
      E45) ∧
    (¬ v2 < (nI 2) →
      wp_X6_classAt x_now_length x_now_classes x_now_line (v2 - (nI 2)) (fun r_4 =>
      wp_X6_classAt x_now_length x_now_classes x_now_line (v2 - (nI 1)) (fun r_5 =>
      wp_X8_isKnown x_ways_known r_4 r_5 (fun r_6 =>
      (r_6 = 0 →
        ∀ v2_7 : Int32, v2_7 = v2 + (-1) →
        lp_X9_backFrom_2 x_now_length x_now_classes x_now_line x_ways_known E37 E45 n v2_7) ∧
      (¬ r_6 = 0 →
        E37 v2)))))
def wp_X9_backFrom (x_now_length : Int32) (x_now_classes : Nat → Int32) (x_now_line : Nat → Int32) (x_ways_known : Nat → Int32) (p1 : Int32) (K : Int32 → Prop) : Prop :=
    ∀ E37_2 : Int32 → Prop,
    (∀ (v2_1 : Int32), 
      (K v2_1) →
     E37_2 v2_1) →
    ∀ E45_3 : Prop,
      (
        (K (nI 0)) →
       E45_3) →
      ∃ n : Nat, lp_X9_backFrom_2 x_now_length x_now_classes x_now_line x_ways_known E37_2 E45_3 n p1

def lp_X9_farthestBack_4 (x_now_length : Int32) (x_now_classes : Nat → Int32) (x_now_line : Nat → Int32) (x_ways_known : Nat → Int32) (E33 : Int32 → Prop) : Nat → Int32 → Int32 → Prop
  | 0, _, _ => False
  | n + 1, v1, v2 =>
    wp_X6_length x_now_length (fun r_3 =>
    (r_3 < v2 →
      E33 v1) ∧
    (¬ r_3 < v2 →
      wp_X9_backFrom x_now_length x_now_classes x_now_line x_ways_known v2 (fun r_4 =>
      ∀ v1_5 : Int32, v1_5 = (if v1 < v2 - r_4 then v2 - r_4 else v1) →
      ∀ v2_6 : Int32, v2_6 = v2 + (nI 1) →
      lp_X9_farthestBack_4 x_now_length x_now_classes x_now_line x_ways_known E33 n v1_5 v2_6)))
def wp_X9_farthestBack (x_now_length : Int32) (x_now_classes : Nat → Int32) (x_now_line : Nat → Int32) (x_ways_known : Nat → Int32) (K : Int32 → Prop) : Prop :=
    ∀ E33_2 : Int32 → Prop,
    (∀ (v1_1 : Int32), 
      (K v1_1) →
     E33_2 v1_1) →
    ∃ n : Nat, lp_X9_farthestBack_4 x_now_length x_now_classes x_now_line x_ways_known E33_2 n (nI 0) (nI 0)

def lp_X6_fourFrom_4 (x_classes : Nat → Int32) (q1 : Int32) (E39 : Int32 → Prop) : Nat → Int32 → Int32 → Prop
  | 0, _, _ => False
  | n + 1, v2, v3 =>
    ((q1 + (nI 4)) ≤ v3 →
      E39 v2) ∧
    (¬ (q1 + (nI 4)) ≤ v3 →
      ((nI 26) ≤ v3 →
        ∀ v2_3 : Int32, v2_3 = (v2 * (nI 6)) + (nI 0) →
        ∀ v3_4 : Int32, v3_4 = v3 + (nI 1) →
        lp_X6_fourFrom_4 x_classes q1 E39 n v2_3 v3_4) ∧
      (¬ (nI 26) ≤ v3 →
        vp_in v3 26 ∧
        ∀ v2_5 : Int32, v2_5 = (v2 * (nI 6)) + (x_classes v3.toNatClampNeg) →
        ∀ v3_6 : Int32, v3_6 = v3 + (nI 1) →
        lp_X6_fourFrom_4 x_classes q1 E39 n v2_5 v3_6))
def wp_X6_fourFrom (x_classes : Nat → Int32) (p1 : Int32) (K : Int32 → Prop) : Prop :=
    ∀ E39_2 : Int32 → Prop,
    (∀ (v2_1 : Int32), 
      (K v2_1) →
     E39_2 v2_1) →
    ∃ n : Nat, lp_X6_fourFrom_4 x_classes p1 E39_2 n (nI 0) p1

def lp_X6_unlikeFours_15 (x_classes : Nat → Int32) (q2 : Int32) (E49 : Int32 → Prop) : Nat → Int32 → Int32 → Prop
  | 0, _, _ => False
  | n + 1, v3, v4 =>
    (q2 ≤ v4 →
      E49 v3) ∧
    (¬ q2 ≤ v4 →
      wp_X6_fourFrom x_classes q2 (fun r_9 =>
      wp_X6_fourFrom x_classes v4 (fun r_10 =>
      (r_9 = r_10 →
        ∀ v3_11 : Int32, v3_11 = v3 &&& (nI 0) →
        ∀ v4_12 : Int32, v4_12 = v4 + (nI 4) →
        lp_X6_unlikeFours_15 x_classes q2 E49 n v3_11 v4_12) ∧
      (¬ r_9 = r_10 →
        ∀ v3_13 : Int32, v3_13 = v3 &&& (nI 1) →
        ∀ v4_14 : Int32, v4_14 = v4 + (nI 4) →
        lp_X6_unlikeFours_15 x_classes q2 E49 n v3_13 v4_14))))
def lp_X6_unlikeFours_4 (x_classes : Nat → Int32) (E67 : Int32 → Prop) : Nat → Int32 → Int32 → Prop
  | 0, _, _ => False
  | n + 1, v1, v2 =>
    ((nI 26) ≤ v2 →
      E67 v1) ∧
    (¬ (nI 26) ≤ v2 →
      ∀ E49_4 : Int32 → Prop,
      (∀ (v3_3 : Int32), 
        ((v3_3 = 0 →
          ∀ v1_5 : Int32, v1_5 = v1 + (nI 0) →
          ∀ v2_6 : Int32, v2_6 = v2 + (nI 4) →
          lp_X6_unlikeFours_4 x_classes E67 n v1_5 v2_6) ∧
        (¬ v3_3 = 0 →
          ∀ v1_7 : Int32, v1_7 = v1 + (nI 1) →
          ∀ v2_8 : Int32, v2_8 = v2 + (nI 4) →
          lp_X6_unlikeFours_4 x_classes E67 n v1_7 v2_8)) →
       E49_4 v3_3) →
      ∃ n : Nat, lp_X6_unlikeFours_15 x_classes v2 E49_4 n (nI 1) (nI 0))
def wp_X6_unlikeFours (x_classes : Nat → Int32) (K : Int32 → Prop) : Prop :=
    ∀ E67_2 : Int32 → Prop,
    (∀ (v1_1 : Int32), 
      (K v1_1) →
     E67_2 v1_1) →
    ∃ n : Nat, lp_X6_unlikeFours_4 x_classes E67_2 n (nI 0) (nI 0)

def wp_X8_knownNumber (x_knownNumber : Int32) (K : Int32 → Prop) : Prop :=
    K x_knownNumber

def wp_X8_unlikeNumber (x_unlikeNumber : Int32) (K : Int32 → Prop) : Prop :=
    K x_unlikeNumber

def wp_X8_number (x_number : Int32) (K : Int32 → Prop) : Prop :=
    K x_number

def wp_X9_machine (x_now_length : Int32) (x_now_classes : Nat → Int32) (x_now_line : Nat → Int32) (x_steps_firsts : Int32) (x_steps_loose : Int32) (x_steps_onward : Nat → Int32) (x_steps_takers : Nat → Int32) (x_ways_number : Int32) (x_ways_unlikeNumber : Int32) (x_ways_knownNumber : Int32) (x_ways_areFound : Int32) (x_ways_stands : Nat → Int32) (x_ways_fewest : Nat → Int32) (x_ways_numberOf : Nat → Int32) (x_ways_nexts : Nat → Int32) (x_ways_begun : Nat → Int32) (x_ways_known : Nat → Int32) (x_ways_groups_groups : Nat → Int32) (x_ways_groups_finer : Nat → Int32) (x_ways_groups_buckets : Nat → Int32) (x_ways_groups_chains : Nat → Int32) (p1 : Int32) (K : Int32 → Int32 → Int32 → Int32 → Int32 → (Nat → Int32) → (Nat → Int32) → (Nat → Int32) → (Nat → Int32) → (Nat → Int32) → (Nat → Int32) → (Nat → Int32) → (Nat → Int32) → (Nat → Int32) → (Nat → Int32) → Prop) : Prop :=
    (p1 < 0 →
      K (-1) x_ways_number x_ways_unlikeNumber x_ways_knownNumber x_ways_areFound x_ways_stands x_ways_fewest x_ways_numberOf x_ways_nexts x_ways_begun x_ways_known x_ways_groups_groups x_ways_groups_finer x_ways_groups_buckets x_ways_groups_chains) ∧
    (¬ p1 < 0 →
      (p1 ≤ (nI 4) →
        wp_X8_find x_ways_number x_ways_unlikeNumber x_ways_knownNumber x_ways_areFound x_ways_stands x_ways_fewest x_ways_numberOf x_ways_nexts x_ways_begun x_ways_known x_ways_groups_groups x_ways_groups_finer x_ways_groups_buckets x_ways_groups_chains x_steps_firsts x_steps_loose x_steps_onward x_steps_takers (fun x_ways_number_1 x_ways_unlikeNumber_2 x_ways_knownNumber_3 x_ways_areFound_4 x_ways_stands_5 x_ways_fewest_6 x_ways_numberOf_7 x_ways_nexts_8 x_ways_begun_9 x_ways_known_10 x_ways_groups_groups_11 x_ways_groups_finer_12 x_ways_groups_buckets_13 x_ways_groups_chains_14 =>
        (p1 = (nI 0) →
          wp_X8_number x_ways_number_1 (fun r_15 =>
          K r_15 x_ways_number_1 x_ways_unlikeNumber_2 x_ways_knownNumber_3 x_ways_areFound_4 x_ways_stands_5 x_ways_fewest_6 x_ways_numberOf_7 x_ways_nexts_8 x_ways_begun_9 x_ways_known_10 x_ways_groups_groups_11 x_ways_groups_finer_12 x_ways_groups_buckets_13 x_ways_groups_chains_14)) ∧
        (¬ p1 = (nI 0) →
          (p1 = (nI 1) →
            wp_X8_unlikeNumber x_ways_unlikeNumber_2 (fun r_16 =>
            K r_16 x_ways_number_1 x_ways_unlikeNumber_2 x_ways_knownNumber_3 x_ways_areFound_4 x_ways_stands_5 x_ways_fewest_6 x_ways_numberOf_7 x_ways_nexts_8 x_ways_begun_9 x_ways_known_10 x_ways_groups_groups_11 x_ways_groups_finer_12 x_ways_groups_buckets_13 x_ways_groups_chains_14)) ∧
          (¬ p1 = (nI 1) →
            (p1 = (nI 2) →
              wp_X8_knownNumber x_ways_knownNumber_3 (fun r_17 =>
              K r_17 x_ways_number_1 x_ways_unlikeNumber_2 x_ways_knownNumber_3 x_ways_areFound_4 x_ways_stands_5 x_ways_fewest_6 x_ways_numberOf_7 x_ways_nexts_8 x_ways_begun_9 x_ways_known_10 x_ways_groups_groups_11 x_ways_groups_finer_12 x_ways_groups_buckets_13 x_ways_groups_chains_14)) ∧
            (¬ p1 = (nI 2) →
              (p1 = (nI 3) →
                wp_X6_unlikeFours x_now_classes (fun r_18 =>
                K r_18 x_ways_number_1 x_ways_unlikeNumber_2 x_ways_knownNumber_3 x_ways_areFound_4 x_ways_stands_5 x_ways_fewest_6 x_ways_numberOf_7 x_ways_nexts_8 x_ways_begun_9 x_ways_known_10 x_ways_groups_groups_11 x_ways_groups_finer_12 x_ways_groups_buckets_13 x_ways_groups_chains_14)) ∧
              (¬ p1 = (nI 3) →
                wp_X9_farthestBack x_now_length x_now_classes x_now_line x_ways_known_10 (fun r_19 =>
                K r_19 x_ways_number_1 x_ways_unlikeNumber_2 x_ways_knownNumber_3 x_ways_areFound_4 x_ways_stands_5 x_ways_fewest_6 x_ways_numberOf_7 x_ways_nexts_8 x_ways_begun_9 x_ways_known_10 x_ways_groups_groups_11 x_ways_groups_finer_12 x_ways_groups_buckets_13 x_ways_groups_chains_14))))))) ∧
      (¬ p1 ≤ (nI 4) →
        K (-1) x_ways_number x_ways_unlikeNumber x_ways_knownNumber x_ways_areFound x_ways_stands x_ways_fewest x_ways_numberOf x_ways_nexts x_ways_begun x_ways_known x_ways_groups_groups x_ways_groups_finer x_ways_groups_buckets x_ways_groups_chains))

def lp_X8_areAlike_33 (x_number : Int32) (x_nexts : Nat → Int32) (q1 : Int32) (q2 : Int32) (E56 : Prop) (E64 : Prop) : Nat → Int32 → Prop
  | 0, _ => False
  | n + 1, v3 =>
    (x_number ≤ v3 →
      E64) ∧
    (¬ x_number ≤ v3 →
      wp_X8_within x_number x_nexts v3 q1 (fun r_5 =>
      wp_X8_within x_number x_nexts v3 q2 (fun r_6 =>
      (r_5 = r_6 →
        ∀ v3_7 : Int32, v3_7 = v3 + (nI 1) →
        lp_X8_areAlike_33 x_number x_nexts q1 q2 E56 E64 n v3_7) ∧
      (¬ r_5 = r_6 →
        E56))))
def wp_X8_areAlike (x_number : Int32) (x_nexts : Nat → Int32) (x_begun : Nat → Int32) (p1 : Int32) (p2 : Int32) (K : Int32 → Prop) : Prop :=
    wp_X9_isClass p1 (fun r_1 =>
    (r_1 = 0 →
      K (nI 0)) ∧
    (¬ r_1 = 0 →
      wp_X9_isClass p2 (fun r_2 =>
      (r_2 = 0 →
        K (nI 0)) ∧
      (¬ r_2 = 0 →
        vp_in p1 6 ∧
        vp_in p2 6 ∧
        ((x_begun p1.toNatClampNeg) = (x_begun p2.toNatClampNeg) →
          ∀ E56_3 : Prop,
          (
            (K (nI 0)) →
           E56_3) →
          ∀ E64_4 : Prop,
            (
              (K (nI 1)) →
             E64_4) →
            ∃ n : Nat, lp_X8_areAlike_33 x_number x_nexts p1 p2 E56_3 E64_4 n (nI 0)) ∧
        (¬ (x_begun p1.toNatClampNeg) = (x_begun p2.toNatClampNeg) →
          K (nI 0))))))

def wp_X9_alike (x_steps_firsts : Int32) (x_steps_loose : Int32) (x_steps_onward : Nat → Int32) (x_steps_takers : Nat → Int32) (x_ways_number : Int32) (x_ways_unlikeNumber : Int32) (x_ways_knownNumber : Int32) (x_ways_areFound : Int32) (x_ways_stands : Nat → Int32) (x_ways_fewest : Nat → Int32) (x_ways_numberOf : Nat → Int32) (x_ways_nexts : Nat → Int32) (x_ways_begun : Nat → Int32) (x_ways_known : Nat → Int32) (x_ways_groups_groups : Nat → Int32) (x_ways_groups_finer : Nat → Int32) (x_ways_groups_buckets : Nat → Int32) (x_ways_groups_chains : Nat → Int32) (p1 : Int32) (p2 : Int32) (K : Int32 → Int32 → Int32 → Int32 → Int32 → (Nat → Int32) → (Nat → Int32) → (Nat → Int32) → (Nat → Int32) → (Nat → Int32) → (Nat → Int32) → (Nat → Int32) → (Nat → Int32) → (Nat → Int32) → (Nat → Int32) → Prop) : Prop :=
    wp_X9_isClass p1 (fun r_1 =>
    (r_1 = 0 →
      K (-1) x_ways_number x_ways_unlikeNumber x_ways_knownNumber x_ways_areFound x_ways_stands x_ways_fewest x_ways_numberOf x_ways_nexts x_ways_begun x_ways_known x_ways_groups_groups x_ways_groups_finer x_ways_groups_buckets x_ways_groups_chains) ∧
    (¬ r_1 = 0 →
      wp_X9_isClass p2 (fun r_2 =>
      (¬ r_2 = 0 →
        wp_X8_find x_ways_number x_ways_unlikeNumber x_ways_knownNumber x_ways_areFound x_ways_stands x_ways_fewest x_ways_numberOf x_ways_nexts x_ways_begun x_ways_known x_ways_groups_groups x_ways_groups_finer x_ways_groups_buckets x_ways_groups_chains x_steps_firsts x_steps_loose x_steps_onward x_steps_takers (fun x_ways_number_3 x_ways_unlikeNumber_4 x_ways_knownNumber_5 x_ways_areFound_6 x_ways_stands_7 x_ways_fewest_8 x_ways_numberOf_9 x_ways_nexts_10 x_ways_begun_11 x_ways_known_12 x_ways_groups_groups_13 x_ways_groups_finer_14 x_ways_groups_buckets_15 x_ways_groups_chains_16 =>
        wp_X8_areAlike x_ways_number_3 x_ways_nexts_10 x_ways_begun_11 p1 p2 (fun r_17 =>
        (r_17 = 0 →
          K (nI 0) x_ways_number_3 x_ways_unlikeNumber_4 x_ways_knownNumber_5 x_ways_areFound_6 x_ways_stands_7 x_ways_fewest_8 x_ways_numberOf_9 x_ways_nexts_10 x_ways_begun_11 x_ways_known_12 x_ways_groups_groups_13 x_ways_groups_finer_14 x_ways_groups_buckets_15 x_ways_groups_chains_16) ∧
        (¬ r_17 = 0 →
          K (nI 1) x_ways_number_3 x_ways_unlikeNumber_4 x_ways_knownNumber_5 x_ways_areFound_6 x_ways_stands_7 x_ways_fewest_8 x_ways_numberOf_9 x_ways_nexts_10 x_ways_begun_11 x_ways_known_12 x_ways_groups_groups_13 x_ways_groups_finer_14 x_ways_groups_buckets_15 x_ways_groups_chains_16)))) ∧
      (r_2 = 0 →
        K (-1) x_ways_number x_ways_unlikeNumber x_ways_knownNumber x_ways_areFound x_ways_stands x_ways_fewest x_ways_numberOf x_ways_nexts x_ways_begun x_ways_known x_ways_groups_groups x_ways_groups_finer x_ways_groups_buckets x_ways_groups_chains))))

def wp_X9_known (x_steps_firsts : Int32) (x_steps_loose : Int32) (x_steps_onward : Nat → Int32) (x_steps_takers : Nat → Int32) (x_ways_number : Int32) (x_ways_unlikeNumber : Int32) (x_ways_knownNumber : Int32) (x_ways_areFound : Int32) (x_ways_stands : Nat → Int32) (x_ways_fewest : Nat → Int32) (x_ways_numberOf : Nat → Int32) (x_ways_nexts : Nat → Int32) (x_ways_begun : Nat → Int32) (x_ways_known : Nat → Int32) (x_ways_groups_groups : Nat → Int32) (x_ways_groups_finer : Nat → Int32) (x_ways_groups_buckets : Nat → Int32) (x_ways_groups_chains : Nat → Int32) (p1 : Int32) (p2 : Int32) (K : Int32 → Int32 → Int32 → Int32 → Int32 → (Nat → Int32) → (Nat → Int32) → (Nat → Int32) → (Nat → Int32) → (Nat → Int32) → (Nat → Int32) → (Nat → Int32) → (Nat → Int32) → (Nat → Int32) → (Nat → Int32) → Prop) : Prop :=
    wp_X9_isClass p1 (fun r_1 =>
    (r_1 = 0 →
      K (-1) x_ways_number x_ways_unlikeNumber x_ways_knownNumber x_ways_areFound x_ways_stands x_ways_fewest x_ways_numberOf x_ways_nexts x_ways_begun x_ways_known x_ways_groups_groups x_ways_groups_finer x_ways_groups_buckets x_ways_groups_chains) ∧
    (¬ r_1 = 0 →
      wp_X9_isClass p2 (fun r_2 =>
      (¬ r_2 = 0 →
        wp_X8_find x_ways_number x_ways_unlikeNumber x_ways_knownNumber x_ways_areFound x_ways_stands x_ways_fewest x_ways_numberOf x_ways_nexts x_ways_begun x_ways_known x_ways_groups_groups x_ways_groups_finer x_ways_groups_buckets x_ways_groups_chains x_steps_firsts x_steps_loose x_steps_onward x_steps_takers (fun x_ways_number_3 x_ways_unlikeNumber_4 x_ways_knownNumber_5 x_ways_areFound_6 x_ways_stands_7 x_ways_fewest_8 x_ways_numberOf_9 x_ways_nexts_10 x_ways_begun_11 x_ways_known_12 x_ways_groups_groups_13 x_ways_groups_finer_14 x_ways_groups_buckets_15 x_ways_groups_chains_16 =>
        wp_X8_isKnown x_ways_known_12 p1 p2 (fun r_17 =>
        (r_17 = 0 →
          K (nI 0) x_ways_number_3 x_ways_unlikeNumber_4 x_ways_knownNumber_5 x_ways_areFound_6 x_ways_stands_7 x_ways_fewest_8 x_ways_numberOf_9 x_ways_nexts_10 x_ways_begun_11 x_ways_known_12 x_ways_groups_groups_13 x_ways_groups_finer_14 x_ways_groups_buckets_15 x_ways_groups_chains_16) ∧
        (¬ r_17 = 0 →
          K (nI 1) x_ways_number_3 x_ways_unlikeNumber_4 x_ways_knownNumber_5 x_ways_areFound_6 x_ways_stands_7 x_ways_fewest_8 x_ways_numberOf_9 x_ways_nexts_10 x_ways_begun_11 x_ways_known_12 x_ways_groups_groups_13 x_ways_groups_finer_14 x_ways_groups_buckets_15 x_ways_groups_chains_16)))) ∧
      (r_2 = 0 →
        K (-1) x_ways_number x_ways_unlikeNumber x_ways_knownNumber x_ways_areFound x_ways_stands x_ways_fewest x_ways_numberOf x_ways_nexts x_ways_begun x_ways_known x_ways_groups_groups x_ways_groups_finer x_ways_groups_buckets x_ways_groups_chains))))

def wp_X9_back (x_now_length : Int32) (x_now_classes : Nat → Int32) (x_now_line : Nat → Int32) (x_steps_firsts : Int32) (x_steps_loose : Int32) (x_steps_onward : Nat → Int32) (x_steps_takers : Nat → Int32) (x_ways_number : Int32) (x_ways_unlikeNumber : Int32) (x_ways_knownNumber : Int32) (x_ways_areFound : Int32) (x_ways_stands : Nat → Int32) (x_ways_fewest : Nat → Int32) (x_ways_numberOf : Nat → Int32) (x_ways_nexts : Nat → Int32) (x_ways_begun : Nat → Int32) (x_ways_known : Nat → Int32) (x_ways_groups_groups : Nat → Int32) (x_ways_groups_finer : Nat → Int32) (x_ways_groups_buckets : Nat → Int32) (x_ways_groups_chains : Nat → Int32) (p1 : Int32) (p2 : Int32) (K : Int32 → Int32 → Int32 → Int32 → Int32 → (Nat → Int32) → (Nat → Int32) → (Nat → Int32) → (Nat → Int32) → (Nat → Int32) → (Nat → Int32) → (Nat → Int32) → (Nat → Int32) → (Nat → Int32) → (Nat → Int32) → Prop) : Prop :=
    wp_X9_isPlaceOfLine x_now_length p1 (fun r_1 =>
    (r_1 = 0 →
      K (-1) x_ways_number x_ways_unlikeNumber x_ways_knownNumber x_ways_areFound x_ways_stands x_ways_fewest x_ways_numberOf x_ways_nexts x_ways_begun x_ways_known x_ways_groups_groups x_ways_groups_finer x_ways_groups_buckets x_ways_groups_chains) ∧
    (¬ r_1 = 0 →
      (p2 < 0 →
        K (-1) x_ways_number x_ways_unlikeNumber x_ways_knownNumber x_ways_areFound x_ways_stands x_ways_fewest x_ways_numberOf x_ways_nexts x_ways_begun x_ways_known x_ways_groups_groups x_ways_groups_finer x_ways_groups_buckets x_ways_groups_chains) ∧
      (¬ p2 < 0 →
        (p2 ≤ (nI 1) →
          wp_X8_find x_ways_number x_ways_unlikeNumber x_ways_knownNumber x_ways_areFound x_ways_stands x_ways_fewest x_ways_numberOf x_ways_nexts x_ways_begun x_ways_known x_ways_groups_groups x_ways_groups_finer x_ways_groups_buckets x_ways_groups_chains x_steps_firsts x_steps_loose x_steps_onward x_steps_takers (fun x_ways_number_2 x_ways_unlikeNumber_3 x_ways_knownNumber_4 x_ways_areFound_5 x_ways_stands_6 x_ways_fewest_7 x_ways_numberOf_8 x_ways_nexts_9 x_ways_begun_10 x_ways_known_11 x_ways_groups_groups_12 x_ways_groups_finer_13 x_ways_groups_buckets_14 x_ways_groups_chains_15 =>
          wp_X9_backFrom x_now_length x_now_classes x_now_line x_ways_known_11 p1 (fun r_16 =>
          (¬ p2 = 0 →
            K (p1 - r_16) x_ways_number_2 x_ways_unlikeNumber_3 x_ways_knownNumber_4 x_ways_areFound_5 x_ways_stands_6 x_ways_fewest_7 x_ways_numberOf_8 x_ways_nexts_9 x_ways_begun_10 x_ways_known_11 x_ways_groups_groups_12 x_ways_groups_finer_13 x_ways_groups_buckets_14 x_ways_groups_chains_15) ∧
          (p2 = 0 →
            K r_16 x_ways_number_2 x_ways_unlikeNumber_3 x_ways_knownNumber_4 x_ways_areFound_5 x_ways_stands_6 x_ways_fewest_7 x_ways_numberOf_8 x_ways_nexts_9 x_ways_begun_10 x_ways_known_11 x_ways_groups_groups_12 x_ways_groups_finer_13 x_ways_groups_buckets_14 x_ways_groups_chains_15)))) ∧
        (¬ p2 ≤ (nI 1) →
          K (-1) x_ways_number x_ways_unlikeNumber x_ways_knownNumber x_ways_areFound x_ways_stands x_ways_fewest x_ways_numberOf x_ways_nexts x_ways_begun x_ways_known x_ways_groups_groups x_ways_groups_finer x_ways_groups_buckets x_ways_groups_chains))))

def wp_X3_bounds (x_bounds : Int32) (K : Int32 → Prop) : Prop :=
    K x_bounds

def lp_X9_idle_4 (x_rules_number : Int32) (x_rules_places : Nat → Int32) (x_now_length : Int32) (x_now_classes : Nat → Int32) (x_now_line : Nat → Int32) (x_steps_firsts : Int32) (x_steps_loose : Int32) (x_steps_onward : Nat → Int32) (x_steps_takers : Nat → Int32) (x_pieces_bounds : Int32) (E67 : Int32 → Int32 → Int32 → (Nat → Int32) → Prop) : Nat → Int32 → Int32 → Int32 → Int32 → (Nat → Int32) → Prop
  | 0, _, _, _, _, _ => False
  | n + 1, v1, v2, x_triedPieces_length, x_triedPieces_bounds, x_triedPieces_stands =>
    wp_X4_number x_rules_number (fun r_6 =>
    (r_6 ≤ v2 →
      E67 v1 x_triedPieces_length x_triedPieces_bounds x_triedPieces_stands) ∧
    (¬ r_6 ≤ v2 →
      wp_X4_placesOf x_rules_number x_rules_places v2 (fun r_7 =>
      wp_X3_read x_triedPieces_length x_triedPieces_bounds x_triedPieces_stands x_now_length x_now_classes x_now_line x_steps_firsts x_steps_loose x_steps_onward x_steps_takers r_7 (fun x_triedPieces_length_8 x_triedPieces_bounds_9 x_triedPieces_stands_10 =>
      wp_X3_bounds x_triedPieces_bounds_9 (fun r_11 =>
      wp_X3_bounds x_pieces_bounds (fun r_12 =>
      (¬ r_11 = r_12 →
        ∀ v2_13 : Int32, v2_13 = v2 + (nI 1) →
        lp_X9_idle_4 x_rules_number x_rules_places x_now_length x_now_classes x_now_line x_steps_firsts x_steps_loose x_steps_onward x_steps_takers x_pieces_bounds E67 n v1 v2_13 x_triedPieces_length_8 x_triedPieces_bounds_9 x_triedPieces_stands_10) ∧
      (r_11 = r_12 →
        ∀ v1_14 : Int32, v1_14 = v1 ||| ((nI 1) <<< (v2 &&& 31)) →
        ∀ v2_15 : Int32, v2_15 = v2 + (nI 1) →
        lp_X9_idle_4 x_rules_number x_rules_places x_now_length x_now_classes x_now_line x_steps_firsts x_steps_loose x_steps_onward x_steps_takers x_pieces_bounds E67 n v1_14 v2_15 x_triedPieces_length_8 x_triedPieces_bounds_9 x_triedPieces_stands_10)))))))
def wp_X9_idle (x_rules_number : Int32) (x_rules_places : Nat → Int32) (x_now_length : Int32) (x_now_classes : Nat → Int32) (x_now_line : Nat → Int32) (x_steps_firsts : Int32) (x_steps_loose : Int32) (x_steps_onward : Nat → Int32) (x_steps_takers : Nat → Int32) (x_pieces_bounds : Int32) (x_triedPieces_length : Int32) (x_triedPieces_bounds : Int32) (x_triedPieces_stands : Nat → Int32) (K : Int32 → Int32 → Int32 → (Nat → Int32) → Prop) : Prop :=
    ∀ E67_5 : Int32 → Int32 → Int32 → (Nat → Int32) → Prop,
    (∀ (v1_1 : Int32) (x_triedPieces_length_2 : Int32) (x_triedPieces_bounds_3 : Int32) (x_triedPieces_stands_4 : Nat → Int32), 
      (K v1_1 x_triedPieces_length_2 x_triedPieces_bounds_3 x_triedPieces_stands_4) →
     E67_5 v1_1 x_triedPieces_length_2 x_triedPieces_bounds_3 x_triedPieces_stands_4) →
    ∃ n : Nat, lp_X9_idle_4 x_rules_number x_rules_places x_now_length x_now_classes x_now_line x_steps_firsts x_steps_loose x_steps_onward x_steps_takers x_pieces_bounds E67_5 n (nI 0) (nI 0) x_triedPieces_length x_triedPieces_bounds x_triedPieces_stands

def lp_X8_fewestLettersTo_2 (x_number : Int32) (x_stands : Nat → Int32) (q1 : Int32) (E21 : Int32 → Prop) (E34 : Prop) : Nat → Int32 → Prop
  | 0, _ => False
  | n + 1, v2 =>
    (x_number ≤ v2 →
      E34) ∧
    (¬ x_number ≤ v2 →
      vp_in v2 1024 ∧
      (((x_stands v2.toNatClampNeg) &&& q1) = 0 →
        ∀ v2_4 : Int32, v2_4 = v2 + (nI 1) →
        lp_X8_fewestLettersTo_2 x_number x_stands q1 E21 E34 n v2_4) ∧
      (¬ ((x_stands v2.toNatClampNeg) &&& q1) = 0 →
        E21 v2))
def wp_X8_fewestLettersTo (x_number : Int32) (x_stands : Nat → Int32) (x_fewest : Nat → Int32) (p1 : Int32) (K : Int32 → Prop) : Prop :=
    ∀ E21_2 : Int32 → Prop,
    (∀ (v2_1 : Int32), 
      (vp_in v2_1 1024 ∧
      K (x_fewest v2_1.toNatClampNeg)) →
     E21_2 v2_1) →
    ∀ E34_3 : Prop,
      (
        (K (-4)) →
       E34_3) →
      ∃ n : Nat, lp_X8_fewestLettersTo_2 x_number x_stands p1 E21_2 E34_3 n (nI 0)

def wp_X9_least (x_rules_number : Int32) (x_rules_wholes : Nat → Int32) (x_steps_firsts : Int32) (x_steps_loose : Int32) (x_steps_onward : Nat → Int32) (x_steps_takers : Nat → Int32) (x_ways_number : Int32) (x_ways_unlikeNumber : Int32) (x_ways_knownNumber : Int32) (x_ways_areFound : Int32) (x_ways_stands : Nat → Int32) (x_ways_fewest : Nat → Int32) (x_ways_numberOf : Nat → Int32) (x_ways_nexts : Nat → Int32) (x_ways_begun : Nat → Int32) (x_ways_known : Nat → Int32) (x_ways_groups_groups : Nat → Int32) (x_ways_groups_finer : Nat → Int32) (x_ways_groups_buckets : Nat → Int32) (x_ways_groups_chains : Nat → Int32) (p1 : Int32) (K : Int32 → Int32 → Int32 → Int32 → Int32 → (Nat → Int32) → (Nat → Int32) → (Nat → Int32) → (Nat → Int32) → (Nat → Int32) → (Nat → Int32) → (Nat → Int32) → (Nat → Int32) → (Nat → Int32) → (Nat → Int32) → Prop) : Prop :=
    wp_X9_isRule x_rules_number p1 (fun r_1 =>
    (¬ r_1 = 0 →
      wp_X8_find x_ways_number x_ways_unlikeNumber x_ways_knownNumber x_ways_areFound x_ways_stands x_ways_fewest x_ways_numberOf x_ways_nexts x_ways_begun x_ways_known x_ways_groups_groups x_ways_groups_finer x_ways_groups_buckets x_ways_groups_chains x_steps_firsts x_steps_loose x_steps_onward x_steps_takers (fun x_ways_number_2 x_ways_unlikeNumber_3 x_ways_knownNumber_4 x_ways_areFound_5 x_ways_stands_6 x_ways_fewest_7 x_ways_numberOf_8 x_ways_nexts_9 x_ways_begun_10 x_ways_known_11 x_ways_groups_groups_12 x_ways_groups_finer_13 x_ways_groups_buckets_14 x_ways_groups_chains_15 =>
      wp_X4_wholeOf x_rules_number x_rules_wholes p1 (fun r_16 =>
      wp_X8_fewestLettersTo x_ways_number_2 x_ways_stands_6 x_ways_fewest_7 r_16 (fun r_17 =>
      (r_17 < (nI 1) →
        K (-4) x_ways_number_2 x_ways_unlikeNumber_3 x_ways_knownNumber_4 x_ways_areFound_5 x_ways_stands_6 x_ways_fewest_7 x_ways_numberOf_8 x_ways_nexts_9 x_ways_begun_10 x_ways_known_11 x_ways_groups_groups_12 x_ways_groups_finer_13 x_ways_groups_buckets_14 x_ways_groups_chains_15) ∧
      (¬ r_17 < (nI 1) →
        (r_17 ≤ (nI 8) →
          K r_17 x_ways_number_2 x_ways_unlikeNumber_3 x_ways_knownNumber_4 x_ways_areFound_5 x_ways_stands_6 x_ways_fewest_7 x_ways_numberOf_8 x_ways_nexts_9 x_ways_begun_10 x_ways_known_11 x_ways_groups_groups_12 x_ways_groups_finer_13 x_ways_groups_buckets_14 x_ways_groups_chains_15) ∧
        (¬ r_17 ≤ (nI 8) →
          K (-4) x_ways_number_2 x_ways_unlikeNumber_3 x_ways_knownNumber_4 x_ways_areFound_5 x_ways_stands_6 x_ways_fewest_7 x_ways_numberOf_8 x_ways_nexts_9 x_ways_begun_10 x_ways_known_11 x_ways_groups_groups_12 x_ways_groups_finer_13 x_ways_groups_buckets_14 x_ways_groups_chains_15)))))) ∧
    (r_1 = 0 →
      K (-1) x_ways_number x_ways_unlikeNumber x_ways_knownNumber x_ways_areFound x_ways_stands x_ways_fewest x_ways_numberOf x_ways_nexts x_ways_begun x_ways_known x_ways_groups_groups x_ways_groups_finer x_ways_groups_buckets x_ways_groups_chains))

def wp_X6_become (x_length : Int32) (x_classes : Nat → Int32) (x_kinds : Nat → Int32) (x_line : Nat → Int32) (y_length : Int32) (y_classes : Nat → Int32) (y_kinds : Nat → Int32) (y_line : Nat → Int32) (K : Int32 → (Nat → Int32) → (Nat → Int32) → (Nat → Int32) → Prop) : Prop :=
    ¬ (nI 0) < 0 ∧ ¬ (nI 0) < 0 ∧ ¬ (nI 26) < 0 ∧ (nI 0).toNatClampNeg + (nI 26).toNatClampNeg ≤ 26 ∧ (nI 0).toNatClampNeg + (nI 26).toNatClampNeg ≤ 26 ∧
    ∀ x_classes_1 : Nat → Int32, x_classes_1 = va_cpy y_classes x_classes (nI 0).toNatClampNeg (nI 0).toNatClampNeg (nI 26).toNatClampNeg →
    ¬ (nI 0) < 0 ∧ ¬ (nI 0) < 0 ∧ ¬ (nI 4) < 0 ∧ (nI 0).toNatClampNeg + (nI 4).toNatClampNeg ≤ 4 ∧ (nI 0).toNatClampNeg + (nI 4).toNatClampNeg ≤ 4 ∧
    ∀ x_kinds_2 : Nat → Int32, x_kinds_2 = va_cpy y_kinds x_kinds (nI 0).toNatClampNeg (nI 0).toNatClampNeg (nI 4).toNatClampNeg →
    ¬ (nI 0) < 0 ∧ ¬ (nI 0) < 0 ∧ ¬ (nI 30) < 0 ∧ (nI 0).toNatClampNeg + (nI 30).toNatClampNeg ≤ 30 ∧ (nI 0).toNatClampNeg + (nI 30).toNatClampNeg ≤ 30 ∧
    ∀ x_line_3 : Nat → Int32, x_line_3 = va_cpy y_line x_line (nI 0).toNatClampNeg (nI 0).toNatClampNeg (nI 30).toNatClampNeg →
    K y_length x_classes_1 x_kinds_2 x_line_3

def wp_X9_draw (p0 : Int32) (p1 : Int32) (K : Int32 → Prop) : Prop :=
    ∀ v2_1 : Int64, v2_1 = (((lN 7919) * p0.toInt64) + ((lN 6151) * p1.toInt64)) + (lN 1) →
    K (((v2_1 * v2_1) - (v2_1 * v2_1) / (lN 65521) * (lN 65521)).toInt32)

def wp_X6_goOnBy (x_length : Int32) (x_classes : Nat → Int32) (x_line : Nat → Int32) (p1 : Int32) (K : Int32 → (Nat → Int32) → (Nat → Int32) → Prop) : Prop :=
    ∀ v2_1 : Int32, v2_1 = (p1 / (nI 8)) - (p1 / (nI 8)) / (nI 26) * (nI 26) →
    ∀ v3_2 : Int32, v3_2 = p1 / (nI 256) →
    ∀ sw_3 : Int32, sw_3 = p1 - p1 / (nI 4) * (nI 4) →
    (sw_3 = (nI 2) →
      (x_length ≤ 0 →
        K x_length x_classes x_line) ∧
      (¬ x_length ≤ 0 →
        ¬ x_length = 0 ∧
        wp_X6_takeOut x_length x_line (v3_2 - v3_2 / x_length * x_length) (fun x_length_4 x_line_5 =>
        K x_length_4 x_classes x_line_5))) ∧
    (¬ sw_3 = (nI 2) →
      (sw_3 = (nI 3) →
        wp_X6_setClass x_classes v2_1 (v3_2 - v3_2 / (nI 6) * (nI 6)) (fun x_classes_6 =>
        K x_length x_classes_6 x_line)) ∧
      (¬ sw_3 = (nI 3) →
        ¬ (x_length + (nI 1)) = 0 ∧
        wp_X6_putIn x_length x_line (v3_2 - v3_2 / (x_length + (nI 1)) * (x_length + (nI 1))) v2_1 (fun x_length_7 x_line_8 =>
        K x_length_7 x_classes x_line_8)))

def lp_X3_longest_6 (x_length : Int32) (x_bounds : Int32) (E39 : Int32 → Prop) : Nat → Int32 → Int32 → Int32 → Prop
  | 0, _, _, _ => False
  | n + 1, v1, v2, v3 =>
    wp_X3_number x_bounds (fun r_3 =>
    (r_3 ≤ v3 →
      E39 v1) ∧
    (¬ r_3 ≤ v3 →
      wp_X3_boundBehind x_length x_bounds v2 (fun r_4 =>
      ∀ v1_5 : Int32, v1_5 = (if v1 < r_4 - v2 then r_4 - v2 else v1) →
      ∀ v3_6 : Int32, v3_6 = v3 + (nI 1) →
      lp_X3_longest_6 x_length x_bounds E39 n v1_5 r_4 v3_6)))
def wp_X3_longest (x_length : Int32) (x_bounds : Int32) (K : Int32 → Prop) : Prop :=
    ∀ E39_2 : Int32 → Prop,
    (∀ (v1_1 : Int32), 
      (K v1_1) →
     E39_2 v1_1) →
    ∃ n : Nat, lp_X3_longest_6 x_length x_bounds E39_2 n (nI 0) (nI 0) (nI 0)

def lp_X9_day_47 (q1 : Int32) (q2 : Int32) (E72 : Int32 → (Nat → Int32) → (Nat → Int32) → Prop) : Nat → Int32 → Int32 → (Nat → Int32) → (Nat → Int32) → Prop
  | 0, _, _, _, _ => False
  | n + 1, v4, x_triedStock_length, x_triedStock_classes, x_triedStock_line =>
    (q2 ≤ v4 →
      E72 x_triedStock_length x_triedStock_classes x_triedStock_line) ∧
    (¬ q2 ≤ v4 →
      wp_X9_draw q1 v4 (fun r_15 =>
      wp_X6_goOnBy x_triedStock_length x_triedStock_classes x_triedStock_line r_15 (fun x_triedStock_length_16 x_triedStock_classes_17 x_triedStock_line_18 =>
      ∀ v4_19 : Int32, v4_19 = v4 + (nI 1) →
      lp_X9_day_47 q1 q2 E72 n v4_19 x_triedStock_length_16 x_triedStock_classes_17 x_triedStock_line_18)))
def wp_X9_day (x_now_length : Int32) (x_now_classes : Nat → Int32) (x_now_kinds : Nat → Int32) (x_now_line : Nat → Int32) (x_steps_firsts : Int32) (x_steps_loose : Int32) (x_steps_onward : Nat → Int32) (x_steps_takers : Nat → Int32) (x_triedStock_length : Int32) (x_triedStock_classes : Nat → Int32) (x_triedStock_kinds : Nat → Int32) (x_triedStock_line : Nat → Int32) (x_triedPieces_length : Int32) (x_triedPieces_bounds : Int32) (x_triedPieces_stands : Nat → Int32) (p1 : Int32) (p2 : Int32) (p3 : Int32) (K : Int32 → Int32 → (Nat → Int32) → (Nat → Int32) → (Nat → Int32) → Int32 → Int32 → (Nat → Int32) → Prop) : Prop :=
    (p1 < 0 →
      K (-1) x_triedStock_length x_triedStock_classes x_triedStock_kinds x_triedStock_line x_triedPieces_length x_triedPieces_bounds x_triedPieces_stands) ∧
    (¬ p1 < 0 →
      ((nI 9999) < p1 →
        K (-1) x_triedStock_length x_triedStock_classes x_triedStock_kinds x_triedStock_line x_triedPieces_length x_triedPieces_bounds x_triedPieces_stands) ∧
      (¬ (nI 9999) < p1 →
        (p2 < (nI 1) →
          K (-1) x_triedStock_length x_triedStock_classes x_triedStock_kinds x_triedStock_line x_triedPieces_length x_triedPieces_bounds x_triedPieces_stands) ∧
        (¬ p2 < (nI 1) →
          ((nI 40) < p2 →
            K (-1) x_triedStock_length x_triedStock_classes x_triedStock_kinds x_triedStock_line x_triedPieces_length x_triedPieces_bounds x_triedPieces_stands) ∧
          (¬ (nI 40) < p2 →
            (p3 < 0 →
              K (-1) x_triedStock_length x_triedStock_classes x_triedStock_kinds x_triedStock_line x_triedPieces_length x_triedPieces_bounds x_triedPieces_stands) ∧
            (¬ p3 < 0 →
              (p3 ≤ (nI 2) →
                wp_X6_become x_triedStock_length x_triedStock_classes x_triedStock_kinds x_triedStock_line x_now_length x_now_classes x_now_kinds x_now_line (fun x_triedStock_length_1 x_triedStock_classes_2 x_triedStock_kinds_3 x_triedStock_line_4 =>
                ∀ E72_8 : Int32 → (Nat → Int32) → (Nat → Int32) → Prop,
                (∀ (x_triedStock_length_5 : Int32) (x_triedStock_classes_6 : Nat → Int32) (x_triedStock_line_7 : Nat → Int32), 
                  (wp_X3_read x_triedPieces_length x_triedPieces_bounds x_triedPieces_stands x_triedStock_length_5 x_triedStock_classes_6 x_triedStock_line_7 x_steps_firsts x_steps_loose x_steps_onward x_steps_takers (nI 0) (fun x_triedPieces_length_9 x_triedPieces_bounds_10 x_triedPieces_stands_11 =>
                  (p3 = (nI 0) →
                    wp_X6_length x_triedStock_length_5 (fun r_12 =>
                    K r_12 x_triedStock_length_5 x_triedStock_classes_6 x_triedStock_kinds_3 x_triedStock_line_7 x_triedPieces_length_9 x_triedPieces_bounds_10 x_triedPieces_stands_11)) ∧
                  (¬ p3 = (nI 0) →
                    (p3 = (nI 1) →
                      wp_X3_number x_triedPieces_bounds_10 (fun r_13 =>
                      K r_13 x_triedStock_length_5 x_triedStock_classes_6 x_triedStock_kinds_3 x_triedStock_line_7 x_triedPieces_length_9 x_triedPieces_bounds_10 x_triedPieces_stands_11)) ∧
                    (¬ p3 = (nI 1) →
                      wp_X3_longest x_triedPieces_length_9 x_triedPieces_bounds_10 (fun r_14 =>
                      K r_14 x_triedStock_length_5 x_triedStock_classes_6 x_triedStock_kinds_3 x_triedStock_line_7 x_triedPieces_length_9 x_triedPieces_bounds_10 x_triedPieces_stands_11))))) →
                 E72_8 x_triedStock_length_5 x_triedStock_classes_6 x_triedStock_line_7) →
                ∃ n : Nat, lp_X9_day_47 p1 p2 E72_8 n (nI 0) x_triedStock_length_1 x_triedStock_classes_2 x_triedStock_line_4)) ∧
              (¬ p3 ≤ (nI 2) →
                K (-1) x_triedStock_length x_triedStock_classes x_triedStock_kinds x_triedStock_line x_triedPieces_length x_triedPieces_bounds x_triedPieces_stands))))))

def wp_X9_keptAt (p1 : Int32) (K : Nat → Prop) : Prop :=
    (¬ p1 = 0 →
      K 1) ∧
    (p1 = 0 →
      K 0)

def wp_X9_keep (x_keptNumber : Int32) (x_now_length : Int32) (x_now_classes : Nat → Int32) (x_now_kinds : Nat → Int32) (x_now_line : Nat → Int32) (x_lowerKept_length : Int32) (x_lowerKept_classes : Nat → Int32) (x_lowerKept_kinds : Nat → Int32) (x_lowerKept_line : Nat → Int32) (x_upperKept_length : Int32) (x_upperKept_classes : Nat → Int32) (x_upperKept_kinds : Nat → Int32) (x_upperKept_line : Nat → Int32) (K : Int32 → Int32 → Int32 → (Nat → Int32) → (Nat → Int32) → (Nat → Int32) → Int32 → (Nat → Int32) → (Nat → Int32) → (Nat → Int32) → Prop) : Prop :=
    (x_keptNumber < (nI 2) →
      wp_X9_keptAt x_keptNumber (fun r_1 =>
        (r_1 = 0 →
          wp_X6_become x_lowerKept_length x_lowerKept_classes x_lowerKept_kinds x_lowerKept_line x_now_length x_now_classes x_now_kinds x_now_line (fun x_lowerKept_length_2 x_lowerKept_classes_3 x_lowerKept_kinds_4 x_lowerKept_line_5 =>
          ∀ x_keptNumber_6 : Int32, x_keptNumber_6 = x_keptNumber + (nI 1) →
          K x_keptNumber_6 x_keptNumber_6 x_lowerKept_length_2 x_lowerKept_classes_3 x_lowerKept_kinds_4 x_lowerKept_line_5 x_upperKept_length x_upperKept_classes x_upperKept_kinds x_upperKept_line)) ∧
        (r_1 = 1 →
          wp_X6_become x_upperKept_length x_upperKept_classes x_upperKept_kinds x_upperKept_line x_now_length x_now_classes x_now_kinds x_now_line (fun x_upperKept_length_7 x_upperKept_classes_8 x_upperKept_kinds_9 x_upperKept_line_10 =>
          ∀ x_keptNumber_11 : Int32, x_keptNumber_11 = x_keptNumber + (nI 1) →
          K x_keptNumber_11 x_keptNumber_11 x_lowerKept_length x_lowerKept_classes x_lowerKept_kinds x_lowerKept_line x_upperKept_length_7 x_upperKept_classes_8 x_upperKept_kinds_9 x_upperKept_line_10)))) ∧
    (¬ x_keptNumber < (nI 2) →
      K (-3) x_keptNumber x_lowerKept_length x_lowerKept_classes x_lowerKept_kinds x_lowerKept_line x_upperKept_length x_upperKept_classes x_upperKept_kinds x_upperKept_line)

def wp_X9_restore (x_keptNumber : Int32) (x_rules_number : Int32) (x_rules_placeNumber : Int32) (x_rules_places : Nat → Int32) (x_rules_firsts : Nat → Int32) (x_rules_wholes : Nat → Int32) (x_rules_taken : Nat → Int32) (x_rules_behinds : Nat → Int32) (x_now_length : Int32) (x_now_classes : Nat → Int32) (x_now_kinds : Nat → Int32) (x_now_line : Nat → Int32) (x_lowerKept_length : Int32) (x_lowerKept_classes : Nat → Int32) (x_lowerKept_kinds : Nat → Int32) (x_lowerKept_line : Nat → Int32) (x_upperKept_length : Int32) (x_upperKept_classes : Nat → Int32) (x_upperKept_kinds : Nat → Int32) (x_upperKept_line : Nat → Int32) (x_acts_number : Int32) (x_steps_firsts : Int32) (x_steps_loose : Int32) (x_steps_onward : Nat → Int32) (x_steps_takers : Nat → Int32) (x_pieces_length : Int32) (x_pieces_bounds : Int32) (x_pieces_stands : Nat → Int32) (x_ways_areFound : Int32) (K : Int32 → Int32 → Int32 → (Nat → Int32) → (Nat → Int32) → (Nat → Int32) → Int32 → Int32 → Int32 → (Nat → Int32) → (Nat → Int32) → Int32 → Int32 → (Nat → Int32) → Int32 → Prop) : Prop :=
    (¬ x_keptNumber = 0 →
      ∀ x_keptNumber_1 : Int32, x_keptNumber_1 = x_keptNumber - (nI 1) →
      wp_X9_keptAt x_keptNumber_1 (fun r_2 =>
        (r_2 = 0 →
          wp_X6_become x_now_length x_now_classes x_now_kinds x_now_line x_lowerKept_length x_lowerKept_classes x_lowerKept_kinds x_lowerKept_line (fun x_now_length_3 x_now_classes_4 x_now_kinds_5 x_now_line_6 =>
          wp_X0_forget x_acts_number (fun x_acts_number_7 =>
          wp_X9_rulesHaveChanged x_rules_number x_rules_placeNumber x_rules_places x_rules_firsts x_rules_wholes x_rules_taken x_rules_behinds x_now_length_3 x_now_classes_4 x_now_kinds_5 x_now_line_6 x_steps_firsts x_steps_loose x_steps_onward x_steps_takers x_pieces_length x_pieces_bounds x_pieces_stands x_ways_areFound (fun x_steps_firsts_8 x_steps_loose_9 x_steps_onward_10 x_steps_takers_11 x_pieces_length_12 x_pieces_bounds_13 x_pieces_stands_14 x_ways_areFound_15 =>
          K x_keptNumber_1 x_keptNumber_1 x_now_length_3 x_now_classes_4 x_now_kinds_5 x_now_line_6 x_acts_number_7 x_steps_firsts_8 x_steps_loose_9 x_steps_onward_10 x_steps_takers_11 x_pieces_length_12 x_pieces_bounds_13 x_pieces_stands_14 x_ways_areFound_15)))) ∧
        (r_2 = 1 →
          wp_X6_become x_now_length x_now_classes x_now_kinds x_now_line x_upperKept_length x_upperKept_classes x_upperKept_kinds x_upperKept_line (fun x_now_length_16 x_now_classes_17 x_now_kinds_18 x_now_line_19 =>
          wp_X0_forget x_acts_number (fun x_acts_number_20 =>
          wp_X9_rulesHaveChanged x_rules_number x_rules_placeNumber x_rules_places x_rules_firsts x_rules_wholes x_rules_taken x_rules_behinds x_now_length_16 x_now_classes_17 x_now_kinds_18 x_now_line_19 x_steps_firsts x_steps_loose x_steps_onward x_steps_takers x_pieces_length x_pieces_bounds x_pieces_stands x_ways_areFound (fun x_steps_firsts_21 x_steps_loose_22 x_steps_onward_23 x_steps_takers_24 x_pieces_length_25 x_pieces_bounds_26 x_pieces_stands_27 x_ways_areFound_28 =>
          K x_keptNumber_1 x_keptNumber_1 x_now_length_16 x_now_classes_17 x_now_kinds_18 x_now_line_19 x_acts_number_20 x_steps_firsts_21 x_steps_loose_22 x_steps_onward_23 x_steps_takers_24 x_pieces_length_25 x_pieces_bounds_26 x_pieces_stands_27 x_ways_areFound_28)))))) ∧
    (x_keptNumber = 0 →
      K (-2) x_keptNumber x_now_length x_now_classes x_now_kinds x_now_line x_acts_number x_steps_firsts x_steps_loose x_steps_onward x_steps_takers x_pieces_length x_pieces_bounds x_pieces_stands x_ways_areFound)

def wp_X9_count (x_keptNumber : Int32) (x_text_length : Int32) (x_rules_number : Int32) (x_rules_placeNumber : Int32) (x_now_length : Int32) (x_acts_number : Int32) (x_pieces_bounds : Int32) (p1 : Int32) (K : Int32 → Prop) : Prop :=
    (p1 = (nI 0) →
      wp_X4_number x_rules_number (fun r_1 =>
      K r_1)) ∧
    (¬ p1 = (nI 0) →
      (p1 = (nI 1) →
        wp_X4_placeNumber x_rules_placeNumber (fun r_2 =>
        K r_2)) ∧
      (¬ p1 = (nI 1) →
        (p1 = (nI 2) →
          wp_X6_length x_now_length (fun r_3 =>
          K r_3)) ∧
        (¬ p1 = (nI 2) →
          (p1 = (nI 3) →
            wp_X3_number x_pieces_bounds (fun r_4 =>
            K r_4)) ∧
          (¬ p1 = (nI 3) →
            (p1 = (nI 4) →
              wp_X0_number x_acts_number (fun r_5 =>
              K r_5)) ∧
            (¬ p1 = (nI 4) →
              (p1 = (nI 5) →
                K x_keptNumber) ∧
              (¬ p1 = (nI 5) →
                (p1 = (nI 6) →
                  wp_X7_length x_text_length (fun r_6 =>
                  K r_6)) ∧
                (¬ p1 = (nI 6) →
                  K (-1))))))))

def wp_X10_in (p0 : Int64) (p2 : Int64) (p4 : Int64) (K : Int32 → Prop) : Prop :=
    ((lg_cmp p0 p2) < 0 →
      K (nI 0)) ∧
    (¬ (lg_cmp p0 p2) < 0 →
      (0 < (lg_cmp p0 p4) →
        K (nI 0)) ∧
      (¬ 0 < (lg_cmp p0 p4) →
        K (nI 1)))

def wp_X10_has (p0 : Int32) (p1 : Int32) (K : Int32 → Prop) : Prop :=
    (¬ ((p0 >>> (p1 &&& 31)) &&& (nI 1)) = (nI 1) →
      K (nI 0)) ∧
    (((p0 >>> (p1 &&& 31)) &&& (nI 1)) = (nI 1) →
      K (nI 1))

def wp_X10_larger (p0 : Int32) (p1 : Int32) (K : Int32 → Prop) : Prop :=
    (p1 ≤ p0 →
      K p0) ∧
    (¬ p1 ≤ p0 →
      K p1)

def lp_X10_begins_12 (E31 : (Nat → Int32) → Prop) : Nat → Int32 → (Nat → Int32) → Prop
  | 0, _, _ => False
  | n + 1, v1, x_newSlot =>
    ((nI 61) ≤ v1 →
      E31 x_newSlot) ∧
    (¬ (nI 61) ≤ v1 →
      vp_in v1 61 ∧
      ∀ x_newSlot_3 : Nat → Int32, x_newSlot_3 = upd x_newSlot v1.toNatClampNeg (nI 0) →
      ∀ v1_4 : Int32, v1_4 = v1 + (nI 1) →
      lp_X10_begins_12 E31 n v1_4 x_newSlot_3)
def wp_X10_begins (x_newRules : Int32) (x_newPlaces : Int32) (x_newSlot : Nat → Int32) (K : Int32 → Int32 → (Nat → Int32) → Prop) : Prop :=
    ∀ E31_2 : (Nat → Int32) → Prop,
    (∀ (x_newSlot_1 : Nat → Int32), 
      (K (nI 0) (nI 0) x_newSlot_1) →
     E31_2 x_newSlot_1) →
    ∃ n : Nat, lp_X10_begins_12 E31_2 n (nI 0) x_newSlot

def wp_X10_addsLetter (x_newSlot : Nat → Int32) (p1 : Int32) (K : (Nat → Int32) → Prop) : Prop :=
    (p1 < 0 →
      K x_newSlot) ∧
    (¬ p1 < 0 →
      vp_in (nI 30) 61 ∧
      vp_in ((nI 31) + (x_newSlot (nI 30).toNatClampNeg)) 61 ∧
      ∀ x_newSlot_1 : Nat → Int32, x_newSlot_1 = upd x_newSlot ((nI 31) + (x_newSlot (nI 30).toNatClampNeg)).toNatClampNeg p1 →
      vp_in (nI 30) 61 ∧
      ∀ t_2 : Int32, t_2 = (x_newSlot_1 (nI 30).toNatClampNeg) + (nI 1) →
      vp_in (nI 30) 61 ∧
      ∀ x_newSlot_3 : Nat → Int32, x_newSlot_3 = upd x_newSlot_1 (nI 30).toNatClampNeg t_2 →
      K x_newSlot_3)

def wp_X10_letters (x_newSlot : Nat → Int32) (p1 : Int32) (p2 : Int32) (p3 : Int32) (p4 : Int32) (K : (Nat → Int32) → Prop) : Prop :=
    wp_X10_addsLetter x_newSlot p1 (fun x_newSlot_1 =>
    wp_X10_addsLetter x_newSlot_1 p2 (fun x_newSlot_2 =>
    wp_X10_addsLetter x_newSlot_2 p3 (fun x_newSlot_3 =>
    wp_X10_addsLetter x_newSlot_3 p4 (fun x_newSlot_4 =>
    K x_newSlot_4))))

def lp_X10_settles_82 (x_newSlot : Nat → Int32) (E106 : (Nat → Int32) → Prop) : Nat → Int32 → (Nat → Int32) → Prop
  | 0, _, _ => False
  | n + 1, v1, x_slot =>
    ((nI 61) ≤ v1 →
      E106 x_slot) ∧
    (¬ (nI 61) ≤ v1 →
      vp_in v1 61 ∧
      ∀ t_8 : Int32, t_8 = x_newSlot v1.toNatClampNeg →
      vp_in v1 732 ∧
      ∀ x_slot_9 : Nat → Int32, x_slot_9 = upd x_slot v1.toNatClampNeg t_8 →
      ∀ v1_10 : Int32, v1_10 = v1 + (nI 1) →
      lp_X10_settles_82 x_newSlot E106 n v1_10 x_slot_9)
def lp_X10_settles_44 (x_newTakes : Nat → Int32) (x_newBehind : Nat → Int32) (E80 : (Nat → Int32) → (Nat → Int32) → Prop) : Nat → Int32 → (Nat → Int32) → (Nat → Int32) → Prop
  | 0, _, _, _ => False
  | n + 1, v1, x_takes, x_behind =>
    ((nI 10) ≤ v1 →
      E80 x_takes x_behind) ∧
    (¬ (nI 10) ≤ v1 →
      vp_in v1 10 ∧
      ∀ t_16 : Int32, t_16 = x_newTakes v1.toNatClampNeg →
      vp_in v1 10 ∧
      ∀ x_takes_17 : Nat → Int32, x_takes_17 = upd x_takes v1.toNatClampNeg t_16 →
      vp_in v1 10 ∧
      ∀ t_18 : Int32, t_18 = x_newBehind v1.toNatClampNeg →
      vp_in v1 10 ∧
      ∀ x_behind_19 : Nat → Int32, x_behind_19 = upd x_behind v1.toNatClampNeg t_18 →
      ∀ v1_20 : Int32, v1_20 = v1 + (nI 1) →
      lp_X10_settles_44 x_newTakes x_newBehind E80 n v1_20 x_takes_17 x_behind_19)
def lp_X10_settles_18 (x_newRule : Nat → Int32) (E42 : (Nat → Int32) → Prop) : Nat → Int32 → (Nat → Int32) → Prop
  | 0, _, _ => False
  | n + 1, v1, x_rule =>
    ((nI 12) ≤ v1 →
      E42 x_rule) ∧
    (¬ (nI 12) ≤ v1 →
      vp_in v1 12 ∧
      ∀ t_29 : Int32, t_29 = x_newRule v1.toNatClampNeg →
      vp_in v1 12 ∧
      ∀ x_rule_30 : Nat → Int32, x_rule_30 = upd x_rule v1.toNatClampNeg t_29 →
      ∀ v1_31 : Int32, v1_31 = v1 + (nI 1) →
      lp_X10_settles_18 x_newRule E42 n v1_31 x_rule_30)
def wp_X10_settles (x_rules : Int32) (x_places : Int32) (x_newRules : Int32) (x_newPlaces : Int32) (x_acts : Int32) (x_kept : Int32) (x_rule : Nat → Int32) (x_takes : Nat → Int32) (x_behind : Nat → Int32) (x_newRule : Nat → Int32) (x_newTakes : Nat → Int32) (x_newBehind : Nat → Int32) (x_newSlot : Nat → Int32) (x_slot : Nat → Int32) (K : Int32 → Int32 → Int32 → Int32 → (Nat → Int32) → (Nat → Int32) → (Nat → Int32) → (Nat → Int32) → Prop) : Prop :=
    ∀ E42_2 : (Nat → Int32) → Prop,
    (∀ (x_rule_1 : Nat → Int32), 
      (∀ E80_5 : (Nat → Int32) → (Nat → Int32) → Prop,
      (∀ (x_takes_3 : Nat → Int32) (x_behind_4 : Nat → Int32), 
        (∀ E106_7 : (Nat → Int32) → Prop,
        (∀ (x_slot_6 : Nat → Int32), 
          (K x_newRules x_newPlaces (nI 0) (nI 0) x_rule_1 x_takes_3 x_behind_4 x_slot_6) →
         E106_7 x_slot_6) →
        ∃ n : Nat, lp_X10_settles_82 x_newSlot E106_7 n (nI 0) x_slot) →
       E80_5 x_takes_3 x_behind_4) →
      ∃ n : Nat, lp_X10_settles_44 x_newTakes x_newBehind E80_5 n (nI 0) x_takes x_behind) →
     E42_2 x_rule_1) →
    ∃ n : Nat, lp_X10_settles_18 x_newRule E42_2 n (nI 0) x_rule

def wp_X10_rowBegins (x_parts : Int32) (K : Int32 → Prop) : Prop :=
    K (nI 0)

def wp_X10_atom (x_newPlaces : Int32) (x_parts : Int32) (x_newTakes : Nat → Int32) (x_newBehind : Nat → Int32) (x_firsts : Nat → Int32) (x_lasts : Nat → Int32) (x_mays : Nat → Int32) (p1 : Int32) (p2 : Int32) (K : Int32 → (Nat → Int32) → (Nat → Int32) → (Nat → Int32) → (Nat → Int32) → (Nat → Int32) → Prop) : Prop :=
    ∀ v3_1 : Int32, v3_1 = x_newPlaces + p1 →
    vp_in v3_1 10 ∧
    ∀ x_newTakes_2 : Nat → Int32, x_newTakes_2 = upd x_newTakes v3_1.toNatClampNeg p2 →
    vp_in v3_1 10 ∧
    ∀ x_newBehind_3 : Nat → Int32, x_newBehind_3 = upd x_newBehind v3_1.toNatClampNeg (nI 0) →
    ∀ t_4 : Int32, t_4 = (nI 1) <<< (v3_1 &&& 31) →
    vp_in x_parts 18 ∧
    ∀ x_firsts_5 : Nat → Int32, x_firsts_5 = upd x_firsts x_parts.toNatClampNeg t_4 →
    ∀ t_6 : Int32, t_6 = (nI 1) <<< (v3_1 &&& 31) →
    vp_in x_parts 18 ∧
    ∀ x_lasts_7 : Nat → Int32, x_lasts_7 = upd x_lasts x_parts.toNatClampNeg t_6 →
    vp_in x_parts 18 ∧
    ∀ x_mays_8 : Nat → Int32, x_mays_8 = upd x_mays x_parts.toNatClampNeg (vp_nar .boolean (nI 0)) →
    ∀ x_parts_9 : Int32, x_parts_9 = x_parts + (nI 1) →
    K x_parts_9 x_newTakes_2 x_newBehind_3 x_firsts_5 x_lasts_7 x_mays_8

def lp_X10_follows_2 (q1 : Int32) (q2 : Int32) (E36 : (Nat → Int32) → Prop) : Nat → Int32 → (Nat → Int32) → Prop
  | 0, _, _ => False
  | n + 1, v3, x_newBehind =>
    ((nI 10) ≤ v3 →
      E36 x_newBehind) ∧
    (¬ (nI 10) ≤ v3 →
      vp_in v3 10 ∧
      wp_X10_has q1 v3 (fun r_3 =>
      (r_3 = 0 →
        ∀ t_4 : Int32, t_4 = (x_newBehind v3.toNatClampNeg) ||| (nI 0) →
        vp_in v3 10 ∧
        ∀ x_newBehind_5 : Nat → Int32, x_newBehind_5 = upd x_newBehind v3.toNatClampNeg t_4 →
        ∀ v3_6 : Int32, v3_6 = v3 + (nI 1) →
        lp_X10_follows_2 q1 q2 E36 n v3_6 x_newBehind_5) ∧
      (¬ r_3 = 0 →
        ∀ t_7 : Int32, t_7 = (x_newBehind v3.toNatClampNeg) ||| q2 →
        vp_in v3 10 ∧
        ∀ x_newBehind_8 : Nat → Int32, x_newBehind_8 = upd x_newBehind v3.toNatClampNeg t_7 →
        ∀ v3_9 : Int32, v3_9 = v3 + (nI 1) →
        lp_X10_follows_2 q1 q2 E36 n v3_9 x_newBehind_8)))
def wp_X10_follows (x_newBehind : Nat → Int32) (p1 : Int32) (p2 : Int32) (K : (Nat → Int32) → Prop) : Prop :=
    ∀ E36_2 : (Nat → Int32) → Prop,
    (∀ (x_newBehind_1 : Nat → Int32), 
      (K x_newBehind_1) →
     E36_2 x_newBehind_1) →
    ∃ n : Nat, lp_X10_follows_2 p1 p2 E36_2 n (nI 0) x_newBehind

def wp_X10_both (x_parts : Int32) (x_newBehind : Nat → Int32) (x_firsts : Nat → Int32) (x_lasts : Nat → Int32) (x_mays : Nat → Int32) (K : Int32 → (Nat → Int32) → (Nat → Int32) → (Nat → Int32) → (Nat → Int32) → Prop) : Prop :=
    ∀ v1_1 : Int32, v1_1 = x_parts - (nI 1) →
    ∀ v2_2 : Int32, v2_2 = x_parts - (nI 2) →
    vp_in v1_1 18 ∧
    vp_in v2_2 18 ∧
    wp_X10_follows x_newBehind (x_lasts v1_1.toNatClampNeg) (x_firsts v2_2.toNatClampNeg) (fun x_newBehind_3 =>
    vp_in v1_1 18 ∧
    vp_in v1_1 18 ∧
    ∀ J55_5 : Int32 → Prop,
    (∀ (s1_4 : Int32), 
      (∀ v3_6 : Int32, v3_6 = (x_firsts v1_1.toNatClampNeg) ||| s1_4 →
      vp_in v2_2 18 ∧
      vp_in v2_2 18 ∧
      ∀ J82_8 : Int32 → Prop,
      (∀ (s1_7 : Int32), 
        (∀ v4_9 : Int32, v4_9 = (x_lasts v2_2.toNatClampNeg) ||| s1_7 →
        vp_in v2_2 18 ∧
        ∀ x_firsts_10 : Nat → Int32, x_firsts_10 = upd x_firsts v2_2.toNatClampNeg v3_6 →
        vp_in v2_2 18 ∧
        ∀ x_lasts_11 : Nat → Int32, x_lasts_11 = upd x_lasts v2_2.toNatClampNeg v4_9 →
        vp_in v1_1 18 ∧
        ((x_mays v1_1.toNatClampNeg) = 0 →
          vp_in v2_2 18 ∧
          ∀ x_mays_12 : Nat → Int32, x_mays_12 = upd x_mays v2_2.toNatClampNeg (vp_nar .boolean (nI 0)) →
          ∀ x_parts_13 : Int32, x_parts_13 = x_parts - (nI 1) →
          K x_parts_13 x_newBehind_3 x_firsts_10 x_lasts_11 x_mays_12) ∧
        (¬ (x_mays v1_1.toNatClampNeg) = 0 →
          vp_in v2_2 18 ∧
          ((x_mays v2_2.toNatClampNeg) = 0 →
            vp_in v2_2 18 ∧
            ∀ x_mays_14 : Nat → Int32, x_mays_14 = upd x_mays v2_2.toNatClampNeg (vp_nar .boolean (nI 0)) →
            ∀ x_parts_15 : Int32, x_parts_15 = x_parts - (nI 1) →
            K x_parts_15 x_newBehind_3 x_firsts_10 x_lasts_11 x_mays_14) ∧
          (¬ (x_mays v2_2.toNatClampNeg) = 0 →
            vp_in v2_2 18 ∧
            ∀ x_mays_16 : Nat → Int32, x_mays_16 = upd x_mays v2_2.toNatClampNeg (vp_nar .boolean (nI 1)) →
            ∀ x_parts_17 : Int32, x_parts_17 = x_parts - (nI 1) →
            K x_parts_17 x_newBehind_3 x_firsts_10 x_lasts_11 x_mays_16))) →
       J82_8 s1_7) →
      ((x_mays v2_2.toNatClampNeg) = 0 →
          J82_8 (nI 0)) ∧
        (¬ (x_mays v2_2.toNatClampNeg) = 0 →
          vp_in v1_1 18 ∧
          J82_8 (x_lasts v1_1.toNatClampNeg))) →
     J55_5 s1_4) →
    ((x_mays v1_1.toNatClampNeg) = 0 →
        J55_5 (nI 0)) ∧
      (¬ (x_mays v1_1.toNatClampNeg) = 0 →
        vp_in v2_2 18 ∧
        J55_5 (x_firsts v2_2.toNatClampNeg)))

def wp_X10_either (x_parts : Int32) (x_firsts : Nat → Int32) (x_lasts : Nat → Int32) (x_mays : Nat → Int32) (K : Int32 → (Nat → Int32) → (Nat → Int32) → (Nat → Int32) → Prop) : Prop :=
    ∀ v1_1 : Int32, v1_1 = x_parts - (nI 1) →
    ∀ v2_2 : Int32, v2_2 = x_parts - (nI 2) →
    vp_in v2_2 18 ∧
    vp_in v1_1 18 ∧
    ∀ t_3 : Int32, t_3 = (x_firsts v2_2.toNatClampNeg) ||| (x_firsts v1_1.toNatClampNeg) →
    vp_in v2_2 18 ∧
    ∀ x_firsts_4 : Nat → Int32, x_firsts_4 = upd x_firsts v2_2.toNatClampNeg t_3 →
    vp_in v2_2 18 ∧
    vp_in v1_1 18 ∧
    ∀ t_5 : Int32, t_5 = (x_lasts v2_2.toNatClampNeg) ||| (x_lasts v1_1.toNatClampNeg) →
    vp_in v2_2 18 ∧
    ∀ x_lasts_6 : Nat → Int32, x_lasts_6 = upd x_lasts v2_2.toNatClampNeg t_5 →
    vp_in v1_1 18 ∧
    ∀ J67_7 : Prop,
    (
      (vp_in v2_2 18 ∧
      ∀ x_mays_8 : Nat → Int32, x_mays_8 = upd x_mays v2_2.toNatClampNeg (vp_nar .boolean (nI 1)) →
      ∀ x_parts_9 : Int32, x_parts_9 = x_parts - (nI 1) →
      K x_parts_9 x_firsts_4 x_lasts_6 x_mays_8) →
     J67_7) →
    (¬ (x_mays v1_1.toNatClampNeg) = 0 →
        J67_7) ∧
      ((x_mays v1_1.toNatClampNeg) = 0 →
        vp_in v2_2 18 ∧
        ((x_mays v2_2.toNatClampNeg) = 0 →
          vp_in v2_2 18 ∧
          ∀ x_mays_10 : Nat → Int32, x_mays_10 = upd x_mays v2_2.toNatClampNeg (vp_nar .boolean (nI 0)) →
          ∀ x_parts_11 : Int32, x_parts_11 = x_parts - (nI 1) →
          K x_parts_11 x_firsts_4 x_lasts_6 x_mays_10) ∧
        (¬ (x_mays v2_2.toNatClampNeg) = 0 →
          J67_7))

def wp_X10_again (x_parts : Int32) (x_newBehind : Nat → Int32) (x_firsts : Nat → Int32) (x_lasts : Nat → Int32) (K : (Nat → Int32) → Prop) : Prop :=
    vp_in (x_parts - (nI 1)) 18 ∧
    vp_in (x_parts - (nI 1)) 18 ∧
    wp_X10_follows x_newBehind (x_lasts (x_parts - (nI 1)).toNatClampNeg) (x_firsts (x_parts - (nI 1)).toNatClampNeg) (fun x_newBehind_1 =>
    K x_newBehind_1)

def wp_X10_maybe (x_parts : Int32) (x_mays : Nat → Int32) (K : (Nat → Int32) → Prop) : Prop :=
    vp_in (x_parts - (nI 1)) 18 ∧
    ∀ x_mays_1 : Nat → Int32, x_mays_1 = upd x_mays (x_parts - (nI 1)).toNatClampNeg (vp_nar .boolean (nI 1)) →
    K x_mays_1

def wp_X10_any (x_parts : Int32) (x_newBehind : Nat → Int32) (x_firsts : Nat → Int32) (x_lasts : Nat → Int32) (x_mays : Nat → Int32) (K : (Nat → Int32) → (Nat → Int32) → Prop) : Prop :=
    wp_X10_again x_parts x_newBehind x_firsts x_lasts (fun x_newBehind_1 =>
    wp_X10_maybe x_parts x_mays (fun x_mays_2 =>
    K x_newBehind_1 x_mays_2))

def wp_X10_ends (x_newRules : Int32) (x_newPlaces : Int32) (x_newRule : Nat → Int32) (x_newSlot : Nat → Int32) (x_firsts : Nat → Int32) (x_lasts : Nat → Int32) (p1 : Int32) (p2 : Int32) (K : Int32 → Int32 → (Nat → Int32) → (Nat → Int32) → Prop) : Prop :=
    vp_in (nI 0) 18 ∧
    ∀ t_1 : Int32, t_1 = x_firsts (nI 0).toNatClampNeg →
    vp_in ((nI 0) + x_newRules) 12 ∧
    ∀ x_newRule_2 : Nat → Int32, x_newRule_2 = upd x_newRule ((nI 0) + x_newRules).toNatClampNeg t_1 →
    vp_in (nI 0) 18 ∧
    ∀ t_3 : Int32, t_3 = x_lasts (nI 0).toNatClampNeg →
    vp_in ((nI 4) + x_newRules) 12 ∧
    ∀ x_newRule_4 : Nat → Int32, x_newRule_4 = upd x_newRule_2 ((nI 4) + x_newRules).toNatClampNeg t_3 →
    ∀ t_5 : Int32, t_5 = (((nI 1) <<< (p2 &&& 31)) - (nI 1)) <<< (x_newPlaces &&& 31) →
    vp_in ((nI 8) + x_newRules) 12 ∧
    ∀ x_newRule_6 : Nat → Int32, x_newRule_6 = upd x_newRule_4 ((nI 8) + x_newRules).toNatClampNeg t_5 →
    vp_in ((nI 26) + x_newRules) 61 ∧
    ∀ x_newSlot_7 : Nat → Int32, x_newSlot_7 = upd x_newSlot ((nI 26) + x_newRules).toNatClampNeg p1 →
    ∀ x_newPlaces_8 : Int32, x_newPlaces_8 = x_newPlaces + p2 →
    ∀ x_newRules_9 : Int32, x_newRules_9 = x_newRules + (nI 1) →
    K x_newRules_9 x_newPlaces_8 x_newRule_6 x_newSlot_7

def wp_X10_write (x_length : Int32) (x_text : Nat → Int32) (p1 : Int32) (K : Int32 → Int32 → (Nat → Int32) → Prop) : Prop :=
    wp_X10_in p1.toInt64 (lN 32) (lN 126) (fun r_1 =>
    (¬ r_1 = 0 →
      (¬ x_length = (nI 200) →
        ∀ t_2 : Int32, t_2 = p1.toInt8.toInt32 →
        vp_in x_length 200 ∧
        ∀ x_text_3 : Nat → Int32, x_text_3 = upd x_text x_length.toNatClampNeg (vp_nar .byte t_2) →
        ∀ x_length_4 : Int32, x_length_4 = x_length + (nI 1) →
        K x_length_4 x_length_4 x_text_3) ∧
      (x_length = (nI 200) →
        K (-3) x_length x_text)) ∧
    (r_1 = 0 →
      K (-1) x_length x_text))

def wp_X10_wipe (x_length : Int32) (K : Int32 → Int32 → Prop) : Prop :=
    K x_length (nI 0)

def wp_X10_letterAt (x_length : Int32) (x_text : Nat → Int32) (p1 : Int32) (K : Int32 → Prop) : Prop :=
    (x_length ≤ p1 →
      K (-1)) ∧
    (¬ x_length ≤ p1 →
      vp_in p1 200 ∧
      K (x_text p1.toNatClampNeg))

def wp_X10_figure (x_length : Int32) (x_next : Int32) (x_isWrong : Int32) (x_text : Nat → Int32) (p1 : Int32) (p2 : Int32) (K : Int32 → Int32 → Int32 → Prop) : Prop :=
    wp_X10_letterAt x_length x_text x_next (fun r_1 =>
    ∀ v3_2 : Int32, v3_2 = r_1 - (nI 48) →
    ∀ J58_4 : Int32 → Prop,
    (∀ (s1_3 : Int32), 
      ((narrow .boolean (.int s1_3) = .int s1_3 ∧ fits .boolean (.int s1_3) = true) ∧
      ∀ x_next_5 : Int32, x_next_5 = x_next + (nI 1) →
      (s1_3 = 0 →
        K v3_2 x_next_5 s1_3) ∧
      (¬ s1_3 = 0 →
        K (nI 0) x_next_5 s1_3)) →
     J58_4 s1_3) →
    ∀ J53_6 : Prop,
      (
        (J58_4 (nI 1)) →
       J53_6) →
      (¬ x_isWrong = 0 →
          J53_6) ∧
        (x_isWrong = 0 →
          wp_X10_letterAt x_length x_text x_next (fun r_7 =>
          wp_X10_in r_7.toInt64 (lN 48) (lN 57) (fun r_8 =>
          (r_8 = 0 →
            J53_6) ∧
          (¬ r_8 = 0 →
            wp_X10_in v3_2.toInt64 p1.toInt64 p2.toInt64 (fun r_9 =>
            (¬ r_9 = 0 →
              J58_4 (nI 0)) ∧
            (r_9 = 0 →
              J53_6)))))))

def wp_X10_comma (x_length : Int32) (x_next : Int32) (x_isWrong : Int32) (x_text : Nat → Int32) (K : Int32 → Int32 → Prop) : Prop :=
    ∀ J21_1 : Prop,
    (
      (∀ x_next_2 : Int32, x_next_2 = x_next + (nI 1) →
      K x_next_2 (nI 1)) →
     J21_1) →
    (¬ x_isWrong = 0 →
        J21_1) ∧
      (x_isWrong = 0 →
        wp_X10_letterAt x_length x_text x_next (fun r_3 =>
        (r_3 = (nI 44) →
          ∀ x_next_4 : Int32, x_next_4 = x_next + (nI 1) →
          K x_next_4 (nI 0)) ∧
        (¬ r_3 = (nI 44) →
          J21_1)))

def wp_X10_isLetter (x_length : Int32) (x_next : Int32) (x_text : Nat → Int32) (K : Int32 → Prop) : Prop :=
    wp_X10_letterAt x_length x_text x_next (fun r_1 =>
    wp_X10_in r_1.toInt64 (lN 97) (lN 122) (fun r_2 =>
    narrow .boolean (.int r_2) = .int r_2 ∧
    K r_2))

def lp_X10_classItem_13 (x_length : Int32) (x_text : Nat → Int32) (q1 : Int32) (E101 : Int32 → Int32 → Int32 → (Nat → Int32) → Prop) : Nat → Int32 → Int32 → Int32 → (Nat → Int32) → Prop
  | 0, _, _, _, _ => False
  | n + 1, v2, x_next, x_isWrong, x_newSlot =>
    (¬ x_isWrong = 0 →
      E101 v2 x_next x_isWrong x_newSlot) ∧
    (x_isWrong = 0 →
      wp_X10_isLetter x_length x_next x_text (fun r_11 =>
      (r_11 = 0 →
        E101 v2 x_next x_isWrong x_newSlot) ∧
      (¬ r_11 = 0 →
        ∀ J39_13 : Int32 → Prop,
        (∀ (s1_12 : Int32), 
          ((narrow .boolean (.int s1_12) = .int s1_12 ∧ fits .boolean (.int s1_12) = true) ∧
          wp_X10_letterAt x_length x_text x_next (fun r_14 =>
          (s1_12 = 0 →
            vp_in (r_14 - (nI 97)) 61 ∧
            ∀ x_newSlot_15 : Nat → Int32, x_newSlot_15 = upd x_newSlot (r_14 - (nI 97)).toNatClampNeg q1 →
            ∀ v2_16 : Int32, v2_16 = v2 + (nI 1) →
            ∀ x_next_17 : Int32, x_next_17 = x_next + (nI 1) →
            lp_X10_classItem_13 x_length x_text q1 E101 n v2_16 x_next_17 s1_12 x_newSlot_15) ∧
          (¬ s1_12 = 0 →
            wp_X10_letterAt x_length x_text x_next (fun r_18 =>
            vp_in (r_18 - (nI 97)) 61 ∧
            ∀ t_19 : Int32, t_19 = x_newSlot (r_18 - (nI 97)).toNatClampNeg →
            vp_in (r_14 - (nI 97)) 61 ∧
            ∀ x_newSlot_20 : Nat → Int32, x_newSlot_20 = upd x_newSlot (r_14 - (nI 97)).toNatClampNeg t_19 →
            ∀ v2_21 : Int32, v2_21 = v2 + (nI 1) →
            ∀ x_next_22 : Int32, x_next_22 = x_next + (nI 1) →
            lp_X10_classItem_13 x_length x_text q1 E101 n v2_21 x_next_22 s1_12 x_newSlot_20)))) →
         J39_13 s1_12) →
        (¬ v2 = (nI 26) →
            J39_13 (nI 0)) ∧
          (v2 = (nI 26) →
            J39_13 (nI 1)))))
def wp_X10_classItem (x_length : Int32) (x_next : Int32) (x_isWrong : Int32) (x_newSlot : Nat → Int32) (x_text : Nat → Int32) (K : Int32 → Int32 → (Nat → Int32) → Prop) : Prop :=
    wp_X10_figure x_length x_next x_isWrong x_text (nI 0) (nI 5) (fun r_3 x_next_1 x_isWrong_2 =>
    wp_X10_comma x_length x_next_1 x_isWrong_2 x_text (fun x_next_4 x_isWrong_5 =>
    ∀ E101_10 : Int32 → Int32 → Int32 → (Nat → Int32) → Prop,
    (∀ (v2_6 : Int32) (x_next_7 : Int32) (x_isWrong_8 : Int32) (x_newSlot_9 : Nat → Int32), 
      ((¬ x_isWrong_8 = 0 →
        K x_next_7 (nI 1) x_newSlot_9) ∧
      (x_isWrong_8 = 0 →
        (¬ v2_6 = 0 →
          K x_next_7 (nI 0) x_newSlot_9) ∧
        (v2_6 = 0 →
          K x_next_7 (nI 1) x_newSlot_9))) →
     E101_10 v2_6 x_next_7 x_isWrong_8 x_newSlot_9) →
    ∃ n : Nat, lp_X10_classItem_13 x_length x_text r_3 E101_10 n (nI 0) x_next_4 x_isWrong_5 x_newSlot))

def wp_X10_isAtom (p0 : Int32) (K : Int32 → Prop) : Prop :=
    wp_X10_in p0.toInt64 (lN 48) (lN 53) (fun r_1 =>
    (¬ r_1 = 0 →
      K (nI 1)) ∧
    (r_1 = 0 →
      (¬ p0 = (nI 46) →
        K (nI 0)) ∧
      (p0 = (nI 46) →
        K (nI 1))))

def lp_X10_ruleItem_250 (x_newPlaces : Int32) (x_length : Int32) (x_text : Nat → Int32) (q2 : Int32) (E367 : Int32 → (Nat → Int32) → (Nat → Int32) → (Nat → Int32) → (Nat → Int32) → (Nat → Int32) → Prop) : Nat → Int32 → Int32 → Int32 → (Nat → Int32) → (Nat → Int32) → (Nat → Int32) → (Nat → Int32) → (Nat → Int32) → Prop
  | 0, _, _, _, _, _, _, _, _ => False
  | n + 1, v5, v6, x_parts, x_newTakes, x_newBehind, x_firsts, x_lasts, x_mays =>
    (v6 < q2 →
      E367 x_parts x_newTakes x_newBehind x_firsts x_lasts x_mays) ∧
    (¬ v6 < q2 →
      wp_X10_letterAt x_length x_text v6 (fun r_27 =>
      wp_X10_isAtom r_27 (fun r_28 =>
      (r_28 = 0 →
        (¬ r_27 = (nI 38) →
          (¬ r_27 = (nI 124) →
            (¬ r_27 = (nI 63) →
              (¬ r_27 = (nI 43) →
                wp_X10_any x_parts x_newBehind x_firsts x_lasts x_mays (fun x_newBehind_29 x_mays_30 =>
                ∀ v6_31 : Int32, v6_31 = v6 + (-1) →
                lp_X10_ruleItem_250 x_newPlaces x_length x_text q2 E367 n v5 v6_31 x_parts x_newTakes x_newBehind_29 x_firsts x_lasts x_mays_30)) ∧
              (r_27 = (nI 43) →
                wp_X10_again x_parts x_newBehind x_firsts x_lasts (fun x_newBehind_32 =>
                ∀ v6_33 : Int32, v6_33 = v6 + (-1) →
                lp_X10_ruleItem_250 x_newPlaces x_length x_text q2 E367 n v5 v6_33 x_parts x_newTakes x_newBehind_32 x_firsts x_lasts x_mays))) ∧
            (r_27 = (nI 63) →
              wp_X10_maybe x_parts x_mays (fun x_mays_34 =>
              ∀ v6_35 : Int32, v6_35 = v6 + (-1) →
              lp_X10_ruleItem_250 x_newPlaces x_length x_text q2 E367 n v5 v6_35 x_parts x_newTakes x_newBehind x_firsts x_lasts x_mays_34))) ∧
          (r_27 = (nI 124) →
            wp_X10_either x_parts x_firsts x_lasts x_mays (fun x_parts_36 x_firsts_37 x_lasts_38 x_mays_39 =>
            ∀ v6_40 : Int32, v6_40 = v6 + (-1) →
            lp_X10_ruleItem_250 x_newPlaces x_length x_text q2 E367 n v5 v6_40 x_parts_36 x_newTakes x_newBehind x_firsts_37 x_lasts_38 x_mays_39))) ∧
        (r_27 = (nI 38) →
          wp_X10_both x_parts x_newBehind x_firsts x_lasts x_mays (fun x_parts_41 x_newBehind_42 x_firsts_43 x_lasts_44 x_mays_45 =>
          ∀ v6_46 : Int32, v6_46 = v6 + (-1) →
          lp_X10_ruleItem_250 x_newPlaces x_length x_text q2 E367 n v5 v6_46 x_parts_41 x_newTakes x_newBehind_42 x_firsts_43 x_lasts_44 x_mays_45))) ∧
      (¬ r_28 = 0 →
        ∀ v5_47 : Int32, v5_47 = v5 + (-1) →
        ∀ J295_49 : Int32 → Prop,
        (∀ (s2_48 : Int32), 
          (wp_X10_atom x_newPlaces x_parts x_newTakes x_newBehind x_firsts x_lasts x_mays v5_47 s2_48 (fun x_parts_50 x_newTakes_51 x_newBehind_52 x_firsts_53 x_lasts_54 x_mays_55 =>
          ∀ v6_56 : Int32, v6_56 = v6 + (-1) →
          lp_X10_ruleItem_250 x_newPlaces x_length x_text q2 E367 n v5_47 v6_56 x_parts_50 x_newTakes_51 x_newBehind_52 x_firsts_53 x_lasts_54 x_mays_55)) →
         J295_49 s2_48) →
        (¬ r_27 = (nI 46) →
            J295_49 (r_27 - (nI 48))) ∧
          (r_27 = (nI 46) →
            J295_49 (nI 6))))))
def lp_X10_ruleItem_38 (x_length : Int32) (x_text : Nat → Int32) (q2 : Int32) (E199 : Int32 → Int32 → Int32 → Prop) : Nat → Int32 → Int32 → Int32 → Int32 → Prop
  | 0, _, _, _, _ => False
  | n + 1, v3, v4, x_next, x_isWrong =>
    (¬ x_isWrong = 0 →
      E199 v4 x_next x_isWrong) ∧
    (x_isWrong = 0 →
      (v3 ≤ 0 →
        E199 v4 x_next x_isWrong) ∧
      (¬ v3 ≤ 0 →
        wp_X10_letterAt x_length x_text x_next (fun r_96 =>
        ∀ J78_98 : Int32 → Prop,
        (∀ (s0_97 : Int32), 
          (∀ J106_100 : Int32 → Prop,
          (∀ (s0_99 : Int32), 
            (∀ J143_102 : Int32 → Prop,
            (∀ (s1_101 : Int32), 
              ((narrow .boolean (.int s1_101) = .int s1_101 ∧ fits .boolean (.int s1_101) = true) ∧
              ∀ J166_104 : Int32 → Prop,
              (∀ (s1_103 : Int32), 
                (∀ v3_105 : Int32, v3_105 = v3 + s1_103 →
                wp_X10_isAtom r_96 (fun r_106 =>
                (r_106 = 0 →
                  ∀ v4_107 : Int32, v4_107 = v4 + (nI 0) →
                  ∀ x_next_108 : Int32, x_next_108 = x_next + (nI 1) →
                  lp_X10_ruleItem_38 x_length x_text q2 E199 n v3_105 v4_107 x_next_108 s1_101) ∧
                (¬ r_106 = 0 →
                  ∀ v4_109 : Int32, v4_109 = v4 + (nI 1) →
                  ∀ x_next_110 : Int32, x_next_110 = x_next + (nI 1) →
                  lp_X10_ruleItem_38 x_length x_text q2 E199 n v3_105 v4_109 x_next_110 s1_101))) →
               J166_104 s1_103) →
              (s0_97 = 0 →
                  (s0_99 = 0 →
                    J166_104 (-1)) ∧
                  (¬ s0_99 = 0 →
                    J166_104 (nI 0))) ∧
                (¬ s0_97 = 0 →
                  J166_104 (nI 1))) →
             J143_102 s1_101) →
            ∀ J138_111 : Prop,
              (
                (J143_102 (nI 1)) →
               J138_111) →
              ((x_next - q2) = (nI 16) →
                  J138_111) ∧
                (¬ (x_next - q2) = (nI 16) →
                  (¬ s0_97 = 0 →
                    J143_102 (nI 0)) ∧
                  (s0_97 = 0 →
                    (¬ s0_99 = 0 →
                      J143_102 (nI 0)) ∧
                    (s0_99 = 0 →
                      wp_X10_isAtom r_96 (fun r_112 =>
                      (¬ r_112 = 0 →
                        J143_102 (nI 0)) ∧
                      (r_112 = 0 →
                        J138_111)))))) →
           J106_100 s0_99) →
          ∀ J101_113 : Prop,
            (
              (J106_100 (nI 1)) →
             J101_113) →
            (r_96 = (nI 42) →
                J101_113) ∧
              (¬ r_96 = (nI 42) →
                (r_96 = (nI 43) →
                  J101_113) ∧
                (¬ r_96 = (nI 43) →
                  (¬ r_96 = (nI 63) →
                    J106_100 (nI 0)) ∧
                  (r_96 = (nI 63) →
                    J101_113)))) →
         J78_98 s0_97) →
        ∀ J73_114 : Prop,
          (
            (J78_98 (nI 1)) →
           J73_114) →
          (r_96 = (nI 38) →
              J73_114) ∧
            (¬ r_96 = (nI 38) →
              (¬ r_96 = (nI 124) →
                J78_98 (nI 0)) ∧
              (r_96 = (nI 124) →
                J73_114)))))
def wp_X10_ruleItem (x_newRules : Int32) (x_newPlaces : Int32) (x_length : Int32) (x_next : Int32) (x_isWrong : Int32) (x_parts : Int32) (x_newRule : Nat → Int32) (x_newTakes : Nat → Int32) (x_newBehind : Nat → Int32) (x_newSlot : Nat → Int32) (x_text : Nat → Int32) (x_firsts : Nat → Int32) (x_lasts : Nat → Int32) (x_mays : Nat → Int32) (K : Int32 → Int32 → Int32 → Int32 → Int32 → (Nat → Int32) → (Nat → Int32) → (Nat → Int32) → (Nat → Int32) → (Nat → Int32) → (Nat → Int32) → (Nat → Int32) → Prop) : Prop :=
    ∀ J14_2 : Int32 → Prop,
    (∀ (s1_1 : Int32), 
      ((narrow .boolean (.int s1_1) = .int s1_1 ∧ fits .boolean (.int s1_1) = true) ∧
      wp_X10_figure x_length x_next s1_1 x_text (nI 0) (nI 3) (fun r_5 x_next_3 x_isWrong_4 =>
      wp_X10_comma x_length x_next_3 x_isWrong_4 x_text (fun x_next_6 x_isWrong_7 =>
      ∀ E199_11 : Int32 → Int32 → Int32 → Prop,
      (∀ (v4_8 : Int32) (x_next_9 : Int32) (x_isWrong_10 : Int32), 
        (∀ J224_13 : Int32 → Prop,
        (∀ (s1_12 : Int32), 
          ((narrow .boolean (.int s1_12) = .int s1_12 ∧ fits .boolean (.int s1_12) = true) ∧
          (¬ s1_12 = 0 →
            K x_newRules x_newPlaces x_next_9 s1_12 x_parts x_newRule x_newTakes x_newBehind x_newSlot x_firsts x_lasts x_mays) ∧
          (s1_12 = 0 →
            wp_X10_rowBegins x_parts (fun x_parts_14 =>
            ∀ v6_15 : Int32, v6_15 = x_next_9 - (nI 1) →
            ∀ E367_22 : Int32 → (Nat → Int32) → (Nat → Int32) → (Nat → Int32) → (Nat → Int32) → (Nat → Int32) → Prop,
            (∀ (x_parts_16 : Int32) (x_newTakes_17 : Nat → Int32) (x_newBehind_18 : Nat → Int32) (x_firsts_19 : Nat → Int32) (x_lasts_20 : Nat → Int32) (x_mays_21 : Nat → Int32), 
              (wp_X10_ends x_newRules x_newPlaces x_newRule x_newSlot x_firsts_19 x_lasts_20 r_5 v4_8 (fun x_newRules_23 x_newPlaces_24 x_newRule_25 x_newSlot_26 =>
              K x_newRules_23 x_newPlaces_24 x_next_9 s1_12 x_parts_16 x_newRule_25 x_newTakes_17 x_newBehind_18 x_newSlot_26 x_firsts_19 x_lasts_20 x_mays_21)) →
             E367_22 x_parts_16 x_newTakes_17 x_newBehind_18 x_firsts_19 x_lasts_20 x_mays_21) →
            ∃ n : Nat, lp_X10_ruleItem_250 x_newPlaces x_length x_text x_next_6 E367_22 n v4_8 v6_15 x_parts_14 x_newTakes x_newBehind x_firsts x_lasts x_mays))) →
         J224_13 s1_12) →
        ∀ J219_95 : Prop,
          (
            (J224_13 (nI 1)) →
           J219_95) →
          (¬ x_isWrong_10 = 0 →
              J219_95) ∧
            (x_isWrong_10 = 0 →
              ((x_newPlaces + v4_8) ≤ (nI 10) →
                J224_13 (nI 0)) ∧
              (¬ (x_newPlaces + v4_8) ≤ (nI 10) →
                J219_95))) →
       E199_11 v4_8 x_next_9 x_isWrong_10) →
      ∃ n : Nat, lp_X10_ruleItem_38 x_length x_text x_next_6 E199_11 n (nI 1) (nI 0) x_next_6 x_isWrong_7))) →
     J14_2 s1_1) →
    (¬ x_newRules = (nI 4) →
        J14_2 (nI 0)) ∧
      (x_newRules = (nI 4) →
        J14_2 (nI 1))

def lp_X10_lineItem_8 (x_length : Int32) (x_text : Nat → Int32) (E78 : Int32 → Int32 → (Nat → Int32) → Prop) : Nat → Int32 → Int32 → (Nat → Int32) → Prop
  | 0, _, _, _ => False
  | n + 1, x_next, x_isWrong, x_newSlot =>
    (¬ x_isWrong = 0 →
      E78 x_next x_isWrong x_newSlot) ∧
    (x_isWrong = 0 →
      wp_X10_isLetter x_length x_next x_text (fun r_6 =>
      (r_6 = 0 →
        E78 x_next x_isWrong x_newSlot) ∧
      (¬ r_6 = 0 →
        vp_in (nI 30) 61 ∧
        ∀ J40_8 : Int32 → Prop,
        (∀ (s1_7 : Int32), 
          ((narrow .boolean (.int s1_7) = .int s1_7 ∧ fits .boolean (.int s1_7) = true) ∧
          (¬ s1_7 = 0 →
            ∀ x_next_9 : Int32, x_next_9 = x_next + (nI 1) →
            lp_X10_lineItem_8 x_length x_text E78 n x_next_9 s1_7 x_newSlot) ∧
          (s1_7 = 0 →
            wp_X10_letterAt x_length x_text x_next (fun r_10 =>
            wp_X10_addsLetter x_newSlot (r_10 - (nI 97)) (fun x_newSlot_11 =>
            ∀ x_next_12 : Int32, x_next_12 = x_next + (nI 1) →
            lp_X10_lineItem_8 x_length x_text E78 n x_next_12 s1_7 x_newSlot_11)))) →
         J40_8 s1_7) →
        (¬ (x_newSlot (nI 30).toNatClampNeg) = (nI 30) →
            J40_8 (nI 0)) ∧
          ((x_newSlot (nI 30).toNatClampNeg) = (nI 30) →
            J40_8 (nI 1)))))
def wp_X10_lineItem (x_length : Int32) (x_next : Int32) (x_isWrong : Int32) (x_newSlot : Nat → Int32) (x_text : Nat → Int32) (K : Int32 → Int32 → (Nat → Int32) → Prop) : Prop :=
    vp_in (nI 30) 61 ∧
    ∀ x_newSlot_1 : Nat → Int32, x_newSlot_1 = upd x_newSlot (nI 30).toNatClampNeg (nI 0) →
    ∀ E78_5 : Int32 → Int32 → (Nat → Int32) → Prop,
    (∀ (x_next_2 : Int32) (x_isWrong_3 : Int32) (x_newSlot_4 : Nat → Int32), 
      (K x_next_2 x_isWrong_3 x_newSlot_4) →
     E78_5 x_next_2 x_isWrong_3 x_newSlot_4) →
    ∃ n : Nat, lp_X10_lineItem_8 x_length x_text E78_5 n x_next x_isWrong x_newSlot_1

def lp_X10_reads_14 (x_length : Int32) (x_text : Nat → Int32) (E145 : Int32 → Int32 → Int32 → Int32 → Int32 → Int32 → (Nat → Int32) → (Nat → Int32) → (Nat → Int32) → (Nat → Int32) → (Nat → Int32) → (Nat → Int32) → (Nat → Int32) → Prop) : Nat → Int32 → Int32 → Int32 → Int32 → Int32 → Int32 → (Nat → Int32) → (Nat → Int32) → (Nat → Int32) → (Nat → Int32) → (Nat → Int32) → (Nat → Int32) → (Nat → Int32) → Prop
  | 0, _, _, _, _, _, _, _, _, _, _, _, _, _ => False
  | n + 1, x_newRules, x_newPlaces, x_next, x_place, x_isWrong, x_parts, x_newRule, x_newTakes, x_newBehind, x_newSlot, x_firsts, x_lasts, x_mays =>
    (x_length ≤ x_next →
      E145 x_newRules x_newPlaces x_next x_place x_isWrong x_parts x_newRule x_newTakes x_newBehind x_newSlot x_firsts x_lasts x_mays) ∧
    (¬ x_length ≤ x_next →
      (¬ x_isWrong = 0 →
        E145 x_newRules x_newPlaces x_next x_place x_isWrong x_parts x_newRule x_newTakes x_newBehind x_newSlot x_firsts x_lasts x_mays) ∧
      (x_isWrong = 0 →
        wp_X10_letterAt x_length x_text x_next (fun r_18 =>
        ∀ x_next_19 : Int32, x_next_19 = x_next + (nI 1) →
        ∀ J103_32 : Int32 → Int32 → Int32 → Int32 → Int32 → (Nat → Int32) → (Nat → Int32) → (Nat → Int32) → (Nat → Int32) → (Nat → Int32) → (Nat → Int32) → (Nat → Int32) → Prop,
        (∀ (x_newRules_20 : Int32) (x_newPlaces_21 : Int32) (x_next_22 : Int32) (x_isWrong_23 : Int32) (x_parts_24 : Int32) (x_newRule_25 : Nat → Int32) (x_newTakes_26 : Nat → Int32) (x_newBehind_27 : Nat → Int32) (x_newSlot_28 : Nat → Int32) (x_firsts_29 : Nat → Int32) (x_lasts_30 : Nat → Int32) (x_mays_31 : Nat → Int32), 
          (∀ J124_33 : Prop,
          (
            (∀ x_next_34 : Int32, x_next_34 = x_next_22 + (nI 1) →
            lp_X10_reads_14 x_length x_text E145 n x_newRules_20 x_newPlaces_21 x_next_34 x_next (nI 1) x_parts_24 x_newRule_25 x_newTakes_26 x_newBehind_27 x_newSlot_28 x_firsts_29 x_lasts_30 x_mays_31) →
           J124_33) →
          (¬ x_isWrong_23 = 0 →
              J124_33) ∧
            (x_isWrong_23 = 0 →
              wp_X10_letterAt x_length x_text x_next_22 (fun r_35 =>
              (r_35 = (nI 59) →
                ∀ x_next_36 : Int32, x_next_36 = x_next_22 + (nI 1) →
                lp_X10_reads_14 x_length x_text E145 n x_newRules_20 x_newPlaces_21 x_next_36 x_next (nI 0) x_parts_24 x_newRule_25 x_newTakes_26 x_newBehind_27 x_newSlot_28 x_firsts_29 x_lasts_30 x_mays_31) ∧
              (¬ r_35 = (nI 59) →
                J124_33)))) →
         J103_32 x_newRules_20 x_newPlaces_21 x_next_22 x_isWrong_23 x_parts_24 x_newRule_25 x_newTakes_26 x_newBehind_27 x_newSlot_28 x_firsts_29 x_lasts_30 x_mays_31) →
        (¬ r_18 = (nI 99) →
            (¬ r_18 = (nI 114) →
              (¬ r_18 = (nI 115) →
                J103_32 x_newRules x_newPlaces x_next_19 (nI 1) x_parts x_newRule x_newTakes x_newBehind x_newSlot x_firsts x_lasts x_mays) ∧
              (r_18 = (nI 115) →
                wp_X10_lineItem x_length x_next_19 x_isWrong x_newSlot x_text (fun x_next_37 x_isWrong_38 x_newSlot_39 =>
                J103_32 x_newRules x_newPlaces x_next_37 x_isWrong_38 x_parts x_newRule x_newTakes x_newBehind x_newSlot_39 x_firsts x_lasts x_mays))) ∧
            (r_18 = (nI 114) →
              wp_X10_ruleItem x_newRules x_newPlaces x_length x_next_19 x_isWrong x_parts x_newRule x_newTakes x_newBehind x_newSlot x_text x_firsts x_lasts x_mays (fun x_newRules_40 x_newPlaces_41 x_next_42 x_isWrong_43 x_parts_44 x_newRule_45 x_newTakes_46 x_newBehind_47 x_newSlot_48 x_firsts_49 x_lasts_50 x_mays_51 =>
              J103_32 x_newRules_40 x_newPlaces_41 x_next_42 x_isWrong_43 x_parts_44 x_newRule_45 x_newTakes_46 x_newBehind_47 x_newSlot_48 x_firsts_49 x_lasts_50 x_mays_51))) ∧
          (r_18 = (nI 99) →
            wp_X10_classItem x_length x_next_19 x_isWrong x_newSlot x_text (fun x_next_52 x_isWrong_53 x_newSlot_54 =>
            J103_32 x_newRules x_newPlaces x_next_52 x_isWrong_53 x_parts x_newRule x_newTakes x_newBehind x_newSlot_54 x_firsts x_lasts x_mays)))))
def wp_X10_reads (x_newRules : Int32) (x_newPlaces : Int32) (x_length : Int32) (x_next : Int32) (x_place : Int32) (x_isWrong : Int32) (x_parts : Int32) (x_newRule : Nat → Int32) (x_newTakes : Nat → Int32) (x_newBehind : Nat → Int32) (x_newSlot : Nat → Int32) (x_text : Nat → Int32) (x_firsts : Nat → Int32) (x_lasts : Nat → Int32) (x_mays : Nat → Int32) (K : Int32 → Int32 → Int32 → Int32 → Int32 → Int32 → (Nat → Int32) → (Nat → Int32) → (Nat → Int32) → (Nat → Int32) → (Nat → Int32) → (Nat → Int32) → (Nat → Int32) → Prop) : Prop :=
    wp_X10_begins x_newRules x_newPlaces x_newSlot (fun x_newRules_1 x_newPlaces_2 x_newSlot_3 =>
    ∀ E145_17 : Int32 → Int32 → Int32 → Int32 → Int32 → Int32 → (Nat → Int32) → (Nat → Int32) → (Nat → Int32) → (Nat → Int32) → (Nat → Int32) → (Nat → Int32) → (Nat → Int32) → Prop,
    (∀ (x_newRules_4 : Int32) (x_newPlaces_5 : Int32) (x_next_6 : Int32) (x_place_7 : Int32) (x_isWrong_8 : Int32) (x_parts_9 : Int32) (x_newRule_10 : Nat → Int32) (x_newTakes_11 : Nat → Int32) (x_newBehind_12 : Nat → Int32) (x_newSlot_13 : Nat → Int32) (x_firsts_14 : Nat → Int32) (x_lasts_15 : Nat → Int32) (x_mays_16 : Nat → Int32), 
      (K x_newRules_4 x_newPlaces_5 x_next_6 x_place_7 x_isWrong_8 x_parts_9 x_newRule_10 x_newTakes_11 x_newBehind_12 x_newSlot_13 x_firsts_14 x_lasts_15 x_mays_16) →
     E145_17 x_newRules_4 x_newPlaces_5 x_next_6 x_place_7 x_isWrong_8 x_parts_9 x_newRule_10 x_newTakes_11 x_newBehind_12 x_newSlot_13 x_firsts_14 x_lasts_15 x_mays_16) →
    ∃ n : Nat, lp_X10_reads_14 x_length x_text E145_17 n x_newRules_1 x_newPlaces_2 (nI 0) x_place (nI 0) x_parts x_newRule x_newTakes x_newBehind x_newSlot_3 x_firsts x_lasts x_mays)

def wp_X10_fault (x_newRules : Int32) (x_newPlaces : Int32) (x_length : Int32) (x_next : Int32) (x_place : Int32) (x_isWrong : Int32) (x_parts : Int32) (x_newRule : Nat → Int32) (x_newTakes : Nat → Int32) (x_newBehind : Nat → Int32) (x_newSlot : Nat → Int32) (x_text : Nat → Int32) (x_firsts : Nat → Int32) (x_lasts : Nat → Int32) (x_mays : Nat → Int32) (K : Int32 → Int32 → Int32 → Int32 → Int32 → Int32 → Int32 → (Nat → Int32) → (Nat → Int32) → (Nat → Int32) → (Nat → Int32) → (Nat → Int32) → (Nat → Int32) → (Nat → Int32) → Prop) : Prop :=
    wp_X10_reads x_newRules x_newPlaces x_length x_next x_place x_isWrong x_parts x_newRule x_newTakes x_newBehind x_newSlot x_text x_firsts x_lasts x_mays (fun x_newRules_1 x_newPlaces_2 x_next_3 x_place_4 x_isWrong_5 x_parts_6 x_newRule_7 x_newTakes_8 x_newBehind_9 x_newSlot_10 x_firsts_11 x_lasts_12 x_mays_13 =>
    (x_isWrong_5 = 0 →
      K (-4) x_newRules_1 x_newPlaces_2 x_next_3 x_place_4 x_isWrong_5 x_parts_6 x_newRule_7 x_newTakes_8 x_newBehind_9 x_newSlot_10 x_firsts_11 x_lasts_12 x_mays_13) ∧
    (¬ x_isWrong_5 = 0 →
      K x_place_4 x_newRules_1 x_newPlaces_2 x_next_3 x_place_4 x_isWrong_5 x_parts_6 x_newRule_7 x_newTakes_8 x_newBehind_9 x_newSlot_10 x_firsts_11 x_lasts_12 x_mays_13))

def wp_X10_lay (x_rules : Int32) (x_places : Int32) (x_newRules : Int32) (x_newPlaces : Int32) (x_acts : Int32) (x_kept : Int32) (x_length : Int32) (x_next : Int32) (x_place : Int32) (x_isWrong : Int32) (x_parts : Int32) (x_rule : Nat → Int32) (x_takes : Nat → Int32) (x_behind : Nat → Int32) (x_newRule : Nat → Int32) (x_newTakes : Nat → Int32) (x_newBehind : Nat → Int32) (x_newSlot : Nat → Int32) (x_slot : Nat → Int32) (x_text : Nat → Int32) (x_firsts : Nat → Int32) (x_lasts : Nat → Int32) (x_mays : Nat → Int32) (K : Int32 → Int32 → Int32 → Int32 → Int32 → Int32 → Int32 → Int32 → Int32 → Int32 → Int32 → (Nat → Int32) → (Nat → Int32) → (Nat → Int32) → (Nat → Int32) → (Nat → Int32) → (Nat → Int32) → (Nat → Int32) → (Nat → Int32) → (Nat → Int32) → (Nat → Int32) → (Nat → Int32) → Prop) : Prop :=
    wp_X10_reads x_newRules x_newPlaces x_length x_next x_place x_isWrong x_parts x_newRule x_newTakes x_newBehind x_newSlot x_text x_firsts x_lasts x_mays (fun x_newRules_1 x_newPlaces_2 x_next_3 x_place_4 x_isWrong_5 x_parts_6 x_newRule_7 x_newTakes_8 x_newBehind_9 x_newSlot_10 x_firsts_11 x_lasts_12 x_mays_13 =>
    (¬ x_isWrong_5 = 0 →
      K (-2) x_rules x_places x_newRules_1 x_newPlaces_2 x_acts x_kept x_next_3 x_place_4 x_isWrong_5 x_parts_6 x_rule x_takes x_behind x_newRule_7 x_newTakes_8 x_newBehind_9 x_newSlot_10 x_slot x_firsts_11 x_lasts_12 x_mays_13) ∧
    (x_isWrong_5 = 0 →
      (¬ x_newRules_1 = 0 →
        wp_X10_settles x_rules x_places x_newRules_1 x_newPlaces_2 x_acts x_kept x_rule x_takes x_behind x_newRule_7 x_newTakes_8 x_newBehind_9 x_newSlot_10 x_slot (fun x_rules_14 x_places_15 x_acts_16 x_kept_17 x_rule_18 x_takes_19 x_behind_20 x_slot_21 =>
        K x_rules_14 x_rules_14 x_places_15 x_newRules_1 x_newPlaces_2 x_acts_16 x_kept_17 x_next_3 x_place_4 x_isWrong_5 x_parts_6 x_rule_18 x_takes_19 x_behind_20 x_newRule_7 x_newTakes_8 x_newBehind_9 x_newSlot_10 x_slot_21 x_firsts_11 x_lasts_12 x_mays_13)) ∧
      (x_newRules_1 = 0 →
        K (-2) x_rules x_places x_newRules_1 x_newPlaces_2 x_acts x_kept x_next_3 x_place_4 x_isWrong_5 x_parts_6 x_rule x_takes x_behind x_newRule_7 x_newTakes_8 x_newBehind_9 x_newSlot_10 x_slot x_firsts_11 x_lasts_12 x_mays_13)))

def wp_X10_isRule (x_rules : Int32) (p1 : Int32) (K : Int32 → Prop) : Prop :=
    wp_X10_in p1.toInt64 (lN 0) ((x_rules - (nI 1)).toInt64) (fun r_1 =>
    narrow .boolean (.int r_1) = .int r_1 ∧
    K r_1)

def wp_X10_isPlace (x_slot : Nat → Int32) (p1 : Int32) (K : Int32 → Prop) : Prop :=
    vp_in (nI 30) 732 ∧
    wp_X10_in p1.toInt64 (lN 0) ((x_slot (nI 30).toNatClampNeg).toInt64) (fun r_1 =>
    narrow .boolean (.int r_1) = .int r_1 ∧
    K r_1)

def wp_X10_rule (x_rules : Int32) (x_rule : Nat → Int32) (x_slot : Nat → Int32) (p1 : Int32) (p2 : Int32) (K : Int32 → Prop) : Prop :=
    wp_X10_isRule x_rules p1 (fun r_1 =>
    (r_1 = 0 →
      K (-1)) ∧
    (¬ r_1 = 0 →
      wp_X10_in p2.toInt64 (lN 0) (lN 3) (fun r_2 =>
      (¬ r_2 = 0 →
        (¬ p2 = 0 →
          (¬ p2 = (nI 1) →
            (¬ p2 = (nI 2) →
              vp_in ((nI 4) + p1) 12 ∧
              K (x_rule ((nI 4) + p1).toNatClampNeg)) ∧
            (p2 = (nI 2) →
              vp_in ((nI 0) + p1) 12 ∧
              K (x_rule ((nI 0) + p1).toNatClampNeg))) ∧
          (p2 = (nI 1) →
            vp_in ((nI 8) + p1) 12 ∧
            K (x_rule ((nI 8) + p1).toNatClampNeg))) ∧
        (p2 = 0 →
          vp_in ((nI 26) + p1) 732 ∧
          K (x_slot ((nI 26) + p1).toNatClampNeg))) ∧
      (r_2 = 0 →
        K (-1)))))

def wp_X10_place (x_places : Int32) (x_takes : Nat → Int32) (x_behind : Nat → Int32) (p1 : Int32) (p2 : Int32) (K : Int32 → Prop) : Prop :=
    wp_X10_in p1.toInt64 (lN 0) ((x_places - (nI 1)).toInt64) (fun r_1 =>
    (r_1 = 0 →
      K (-1)) ∧
    (¬ r_1 = 0 →
      wp_X10_in p2.toInt64 (lN 0) (lN 1) (fun r_2 =>
      (r_2 = 0 →
        K (-1)) ∧
      (¬ r_2 = 0 →
        (¬ p2 = 0 →
          vp_in p1 10 ∧
          K (x_behind p1.toNatClampNeg)) ∧
        (p2 = 0 →
          vp_in p1 10 ∧
          K (x_takes p1.toNatClampNeg))))))

def wp_X10_kind (x_slot : Nat → Int32) (p1 : Int32) (K : Int32 → Prop) : Prop :=
    wp_X10_in p1.toInt64 (lN 0) (lN 25) (fun r_1 =>
    (r_1 = 0 →
      K (-1)) ∧
    (¬ r_1 = 0 →
      vp_in p1 732 ∧
      K (x_slot p1.toNatClampNeg)))

def wp_X10_letter (x_slot : Nat → Int32) (p1 : Int32) (K : Int32 → Prop) : Prop :=
    wp_X10_isPlace x_slot p1 (fun r_1 =>
    (¬ r_1 = 0 →
      vp_in (nI 30) 732 ∧
      (¬ p1 = (x_slot (nI 30).toNatClampNeg) →
        vp_in ((nI 31) + p1) 732 ∧
        K (x_slot ((nI 31) + p1).toNatClampNeg)) ∧
      (p1 = (x_slot (nI 30).toNatClampNeg) →
        K (-4))) ∧
    (r_1 = 0 →
      K (-1)))

def lp_X10_copies_2 (q1 : Int32) (q2 : Int32) (E30 : (Nat → Int32) → Prop) : Nat → Int32 → (Nat → Int32) → Prop
  | 0, _, _ => False
  | n + 1, v3, x_slot =>
    ((nI 61) ≤ v3 →
      E30 x_slot) ∧
    (¬ (nI 61) ≤ v3 →
      vp_in (q1 + v3) 732 ∧
      ∀ t_3 : Int32, t_3 = x_slot (q1 + v3).toNatClampNeg →
      vp_in (q2 + v3) 732 ∧
      ∀ x_slot_4 : Nat → Int32, x_slot_4 = upd x_slot (q2 + v3).toNatClampNeg t_3 →
      ∀ v3_5 : Int32, v3_5 = v3 + (nI 1) →
      lp_X10_copies_2 q1 q2 E30 n v3_5 x_slot_4)
def wp_X10_copies (x_slot : Nat → Int32) (p1 : Int32) (p2 : Int32) (K : (Nat → Int32) → Prop) : Prop :=
    ∀ E30_2 : (Nat → Int32) → Prop,
    (∀ (x_slot_1 : Nat → Int32), 
      (K x_slot_1) →
     E30_2 x_slot_1) →
    ∃ n : Nat, lp_X10_copies_2 p1 p2 E30_2 n (nI 0) x_slot

def lp_X10_known_12 (E40 : (Nat → Int32) → Prop) : Nat → Int32 → (Nat → Int32) → Prop
  | 0, _, _ => False
  | n + 1, v1, x_slot =>
    ((nI 488) ≤ v1 →
      E40 x_slot) ∧
    (¬ (nI 488) ≤ v1 →
      vp_in (v1 + (nI 61)) 732 ∧
      ∀ t_8 : Int32, t_8 = x_slot (v1 + (nI 61)).toNatClampNeg →
      vp_in v1 732 ∧
      ∀ x_slot_9 : Nat → Int32, x_slot_9 = upd x_slot v1.toNatClampNeg t_8 →
      ∀ v1_10 : Int32, v1_10 = v1 + (nI 1) →
      lp_X10_known_12 E40 n v1_10 x_slot_9)
def wp_X10_known (x_acts : Int32) (x_slot : Nat → Int32) (K : Int32 → (Nat → Int32) → Prop) : Prop :=
    ∀ J46_3 : Int32 → (Nat → Int32) → Prop,
    (∀ (x_acts_1 : Int32) (x_slot_2 : Nat → Int32), 
      (∀ x_acts_4 : Int32, x_acts_4 = x_acts_1 + (nI 1) →
      wp_X10_copies x_slot_2 (nI 0) (x_acts_4 * (nI 61)) (fun x_slot_5 =>
      K x_acts_4 x_slot_5)) →
     J46_3 x_acts_1 x_slot_2) →
    (¬ x_acts = (nI 8) →
        J46_3 x_acts x_slot) ∧
      (x_acts = (nI 8) →
        ∀ E40_7 : (Nat → Int32) → Prop,
        (∀ (x_slot_6 : Nat → Int32), 
          (J46_3 (nI 7) x_slot_6) →
         E40_7 x_slot_6) →
        ∃ n : Nat, lp_X10_known_12 E40_7 n (nI 61) x_slot)

def lp_X10_puts_11 (q1 : Int32) (q2 : Int32) (E49 : (Nat → Int32) → Prop) : Nat → Int32 → (Nat → Int32) → Prop
  | 0, _, _ => False
  | n + 1, v4, x_slot =>
    (v4 ≤ q2 →
      E49 x_slot) ∧
    (¬ v4 ≤ q2 →
      vp_in (((q1 + (nI 31)) + v4) - (nI 1)) 732 ∧
      ∀ t_7 : Int32, t_7 = x_slot (((q1 + (nI 31)) + v4) - (nI 1)).toNatClampNeg →
      vp_in ((q1 + (nI 31)) + v4) 732 ∧
      ∀ x_slot_8 : Nat → Int32, x_slot_8 = upd x_slot ((q1 + (nI 31)) + v4).toNatClampNeg t_7 →
      ∀ v4_9 : Int32, v4_9 = v4 + (-1) →
      lp_X10_puts_11 q1 q2 E49 n v4_9 x_slot_8)
def wp_X10_puts (x_slot : Nat → Int32) (p1 : Int32) (p2 : Int32) (p3 : Int32) (K : (Nat → Int32) → Prop) : Prop :=
    vp_in (p1 + (nI 30)) 732 ∧
    ∀ v4_1 : Int32, v4_1 = x_slot (p1 + (nI 30)).toNatClampNeg →
    ∀ E49_3 : (Nat → Int32) → Prop,
    (∀ (x_slot_2 : Nat → Int32), 
      (vp_in ((p1 + (nI 31)) + p2) 732 ∧
      ∀ x_slot_4 : Nat → Int32, x_slot_4 = upd x_slot_2 ((p1 + (nI 31)) + p2).toNatClampNeg p3 →
      vp_in (p1 + (nI 30)) 732 ∧
      ∀ t_5 : Int32, t_5 = (x_slot_4 (p1 + (nI 30)).toNatClampNeg) + (nI 1) →
      vp_in (p1 + (nI 30)) 732 ∧
      ∀ x_slot_6 : Nat → Int32, x_slot_6 = upd x_slot_4 (p1 + (nI 30)).toNatClampNeg t_5 →
      K x_slot_6) →
     E49_3 x_slot_2) →
    ∃ n : Nat, lp_X10_puts_11 p1 p2 E49_3 n v4_1 x_slot

def lp_X10_takesOut_2 (q1 : Int32) (E47 : (Nat → Int32) → Prop) : Nat → Int32 → (Nat → Int32) → Prop
  | 0, _, _ => False
  | n + 1, v3, x_slot =>
    vp_in (q1 + (nI 30)) 732 ∧
    (((x_slot (q1 + (nI 30)).toNatClampNeg) - (nI 1)) ≤ v3 →
      E47 x_slot) ∧
    (¬ ((x_slot (q1 + (nI 30)).toNatClampNeg) - (nI 1)) ≤ v3 →
      vp_in (((q1 + (nI 31)) + v3) + (nI 1)) 732 ∧
      ∀ t_5 : Int32, t_5 = x_slot (((q1 + (nI 31)) + v3) + (nI 1)).toNatClampNeg →
      vp_in ((q1 + (nI 31)) + v3) 732 ∧
      ∀ x_slot_6 : Nat → Int32, x_slot_6 = upd x_slot ((q1 + (nI 31)) + v3).toNatClampNeg t_5 →
      ∀ v3_7 : Int32, v3_7 = v3 + (nI 1) →
      lp_X10_takesOut_2 q1 E47 n v3_7 x_slot_6)
def wp_X10_takesOut (x_slot : Nat → Int32) (p1 : Int32) (p2 : Int32) (K : (Nat → Int32) → Prop) : Prop :=
    ∀ E47_2 : (Nat → Int32) → Prop,
    (∀ (x_slot_1 : Nat → Int32), 
      (vp_in (p1 + (nI 30)) 732 ∧
      ∀ t_3 : Int32, t_3 = (x_slot_1 (p1 + (nI 30)).toNatClampNeg) - (nI 1) →
      vp_in (p1 + (nI 30)) 732 ∧
      ∀ x_slot_4 : Nat → Int32, x_slot_4 = upd x_slot_1 (p1 + (nI 30)).toNatClampNeg t_3 →
      K x_slot_4) →
     E47_2 x_slot_1) →
    ∃ n : Nat, lp_X10_takesOut_2 p1 E47_2 n p2 x_slot

def wp_X10_insert (x_acts : Int32) (x_slot : Nat → Int32) (p1 : Int32) (p2 : Int32) (K : Int32 → Int32 → (Nat → Int32) → Prop) : Prop :=
    wp_X10_isPlace x_slot p1 (fun r_1 =>
    (r_1 = 0 →
      K (-1) x_acts x_slot) ∧
    (¬ r_1 = 0 →
      wp_X10_in p2.toInt64 (lN 0) (lN 25) (fun r_2 =>
      (¬ r_2 = 0 →
        vp_in (nI 30) 732 ∧
        (¬ (x_slot (nI 30).toNatClampNeg) = (nI 30) →
          wp_X10_known x_acts x_slot (fun x_acts_3 x_slot_4 =>
          wp_X10_puts x_slot_4 (nI 0) p1 p2 (fun x_slot_5 =>
          vp_in (nI 30) 732 ∧
          K (x_slot_5 (nI 30).toNatClampNeg) x_acts_3 x_slot_5))) ∧
        ((x_slot (nI 30).toNatClampNeg) = (nI 30) →
          K (-3) x_acts x_slot)) ∧
      (r_2 = 0 →
        K (-1) x_acts x_slot))))

def wp_X10_erase (x_acts : Int32) (x_slot : Nat → Int32) (p1 : Int32) (K : Int32 → Int32 → (Nat → Int32) → Prop) : Prop :=
    vp_in (nI 30) 732 ∧
    wp_X10_in p1.toInt64 (lN 0) (((x_slot (nI 30).toNatClampNeg) - (nI 1)).toInt64) (fun r_1 =>
    (¬ r_1 = 0 →
      wp_X10_known x_acts x_slot (fun x_acts_2 x_slot_3 =>
      vp_in ((nI 31) + p1) 732 ∧
      ∀ v2_4 : Int32, v2_4 = x_slot_3 ((nI 31) + p1).toNatClampNeg →
      wp_X10_takesOut x_slot_3 (nI 0) p1 (fun x_slot_5 =>
      K v2_4 x_acts_2 x_slot_5))) ∧
    (r_1 = 0 →
      K (-1) x_acts x_slot))

def wp_X10_tell (x_acts : Int32) (x_slot : Nat → Int32) (p1 : Int32) (p2 : Int32) (K : Int32 → Int32 → (Nat → Int32) → Prop) : Prop :=
    wp_X10_in p1.toInt64 (lN 0) (lN 25) (fun r_1 =>
    (r_1 = 0 →
      K (-1) x_acts x_slot) ∧
    (¬ r_1 = 0 →
      wp_X10_in p2.toInt64 (lN 0) (lN 5) (fun r_2 =>
      (¬ r_2 = 0 →
        vp_in p1 732 ∧
        ∀ v3_3 : Int32, v3_3 = x_slot p1.toNatClampNeg →
        (¬ v3_3 = p2 →
          wp_X10_known x_acts x_slot (fun x_acts_4 x_slot_5 =>
          vp_in p1 732 ∧
          ∀ x_slot_6 : Nat → Int32, x_slot_6 = upd x_slot_5 p1.toNatClampNeg p2 →
          K v3_3 x_acts_4 x_slot_6)) ∧
        (v3_3 = p2 →
          K (-2) x_acts x_slot)) ∧
      (r_2 = 0 →
        K (-1) x_acts x_slot))))

def wp_X10_rename (x_rules : Int32) (x_acts : Int32) (x_slot : Nat → Int32) (p1 : Int32) (p2 : Int32) (K : Int32 → Int32 → (Nat → Int32) → Prop) : Prop :=
    wp_X10_isRule x_rules p1 (fun r_1 =>
    (r_1 = 0 →
      K (-1) x_acts x_slot) ∧
    (¬ r_1 = 0 →
      wp_X10_in p2.toInt64 (lN 0) (lN 3) (fun r_2 =>
      (¬ r_2 = 0 →
        vp_in ((nI 26) + p1) 732 ∧
        ∀ v3_3 : Int32, v3_3 = x_slot ((nI 26) + p1).toNatClampNeg →
        (¬ v3_3 = p2 →
          wp_X10_known x_acts x_slot (fun x_acts_4 x_slot_5 =>
          vp_in ((nI 26) + p1) 732 ∧
          ∀ x_slot_6 : Nat → Int32, x_slot_6 = upd x_slot_5 ((nI 26) + p1).toNatClampNeg p2 →
          K v3_3 x_acts_4 x_slot_6)) ∧
        (v3_3 = p2 →
          K (-2) x_acts x_slot)) ∧
      (r_2 = 0 →
        K (-1) x_acts x_slot))))

def wp_X10_undo (x_acts : Int32) (x_slot : Nat → Int32) (K : Int32 → Int32 → (Nat → Int32) → Prop) : Prop :=
    (¬ x_acts = 0 →
      wp_X10_copies x_slot (x_acts * (nI 61)) (nI 0) (fun x_slot_1 =>
      ∀ x_acts_2 : Int32, x_acts_2 = x_acts - (nI 1) →
      K x_acts_2 x_acts_2 x_slot_1)) ∧
    (x_acts = 0 →
      K (-2) x_acts x_slot)

def wp_X10_isTaken (p0 : Int32) (p1 : Int32) (K : Int32 → Prop) : Prop :=
    (p0 = (nI 6) →
      K (nI 1)) ∧
    (¬ p0 = (nI 6) →
      (¬ p0 = p1 →
        K (nI 0)) ∧
      (p0 = p1 →
        K (nI 1)))

def lp_X10_taking_5 (x_places : Int32) (x_takes : Nat → Int32) (q1 : Int32) (q2 : Int32) (E54 : Int32 → Prop) : Nat → Int32 → Int32 → Prop
  | 0, _, _ => False
  | n + 1, v3, v4 =>
    (x_places ≤ v4 →
      E54 v3) ∧
    (¬ x_places ≤ v4 →
      wp_X10_has q1 v4 (fun r_3 =>
      (r_3 = 0 →
        ∀ v3_4 : Int32, v3_4 = v3 ||| (nI 0) →
        ∀ v4_5 : Int32, v4_5 = v4 + (nI 1) →
        lp_X10_taking_5 x_places x_takes q1 q2 E54 n v3_4 v4_5) ∧
      (¬ r_3 = 0 →
        vp_in v4 10 ∧
        wp_X10_isTaken (x_takes v4.toNatClampNeg) q2 (fun r_6 =>
        (r_6 = 0 →
          ∀ v3_7 : Int32, v3_7 = v3 ||| (nI 0) →
          ∀ v4_8 : Int32, v4_8 = v4 + (nI 1) →
          lp_X10_taking_5 x_places x_takes q1 q2 E54 n v3_7 v4_8) ∧
        (¬ r_6 = 0 →
          ∀ v3_9 : Int32, v3_9 = v3 ||| ((nI 1) <<< (v4 &&& 31)) →
          ∀ v4_10 : Int32, v4_10 = v4 + (nI 1) →
          lp_X10_taking_5 x_places x_takes q1 q2 E54 n v3_9 v4_10)))))
def wp_X10_taking (x_places : Int32) (x_takes : Nat → Int32) (p1 : Int32) (p2 : Int32) (K : Int32 → Prop) : Prop :=
    ∀ E54_2 : Int32 → Prop,
    (∀ (v3_1 : Int32), 
      (K v3_1) →
     E54_2 v3_1) →
    ∃ n : Nat, lp_X10_taking_5 x_places x_takes p1 p2 E54_2 n (nI 0) (nI 0)

def lp_X10_begun_4 (x_rules : Int32) (x_without : Int32) (x_rule : Nat → Int32) (E44 : Int32 → Prop) : Nat → Int32 → Int32 → Prop
  | 0, _, _ => False
  | n + 1, v2, v3 =>
    (x_rules ≤ v3 →
      E44 v2) ∧
    (¬ x_rules ≤ v3 →
      wp_X10_has x_without v3 (fun r_4 =>
      (r_4 = 0 →
        vp_in ((nI 0) + v3) 12 ∧
        ∀ v2_5 : Int32, v2_5 = v2 ||| (x_rule ((nI 0) + v3).toNatClampNeg) →
        ∀ v3_6 : Int32, v3_6 = v3 + (nI 1) →
        lp_X10_begun_4 x_rules x_without x_rule E44 n v2_5 v3_6) ∧
      (¬ r_4 = 0 →
        ∀ v2_7 : Int32, v2_7 = v2 ||| (nI 0) →
        ∀ v3_8 : Int32, v3_8 = v3 + (nI 1) →
        lp_X10_begun_4 x_rules x_without x_rule E44 n v2_7 v3_8)))
def wp_X10_begun (x_rules : Int32) (x_places : Int32) (x_without : Int32) (x_rule : Nat → Int32) (x_takes : Nat → Int32) (p1 : Int32) (K : Int32 → Prop) : Prop :=
    ∀ E44_2 : Int32 → Prop,
    (∀ (v2_1 : Int32), 
      (wp_X10_taking x_places x_takes v2_1 p1 (fun r_3 =>
      K r_3)) →
     E44_2 v2_1) →
    ∃ n : Nat, lp_X10_begun_4 x_rules x_without x_rule E44_2 n (nI 0) (nI 0)

def lp_X10_goes_73 (x_places : Int32) (x_behind : Nat → Int32) (q7 : Int32) (E114 : Int32 → Prop) : Nat → Int32 → Int32 → Prop
  | 0, _, _ => False
  | n + 1, v8, v9 =>
    (x_places ≤ v9 →
      E114 v8) ∧
    (¬ x_places ≤ v9 →
      wp_X10_has q7 v9 (fun r_16 =>
      (r_16 = 0 →
        ∀ v8_17 : Int32, v8_17 = v8 ||| (nI 0) →
        ∀ v9_18 : Int32, v9_18 = v9 + (nI 1) →
        lp_X10_goes_73 x_places x_behind q7 E114 n v8_17 v9_18) ∧
      (¬ r_16 = 0 →
        vp_in v9 10 ∧
        ∀ v8_19 : Int32, v8_19 = v8 ||| (x_behind v9.toNatClampNeg) →
        ∀ v9_20 : Int32, v9_20 = v9 + (nI 1) →
        lp_X10_goes_73 x_places x_behind q7 E114 n v8_19 v9_20)))
def lp_X10_goes_5 (x_rules : Int32) (x_places : Int32) (x_rule : Nat → Int32) (x_takes : Nat → Int32) (x_behind : Nat → Int32) (x_slot : Nat → Int32) (q1 : Int32) (q2 : Int32) (E150 : Int32 → Prop) : Nat → Int32 → Int32 → Prop
  | 0, _, _ => False
  | n + 1, v3, v4 =>
    (x_rules ≤ v4 →
      E150 v3) ∧
    (¬ x_rules ≤ v4 →
      vp_in ((nI 26) + v4) 732 ∧
      ∀ v5_3 : Int32, v5_3 = x_slot ((nI 26) + v4).toNatClampNeg →
      vp_in ((nI 8) + v4) 12 ∧
      ∀ v6_4 : Int32, v6_4 = q1 &&& (x_rule ((nI 8) + v4).toNatClampNeg) →
      ∀ J65_6 : Int32 → Prop,
      (∀ (s0_5 : Int32), 
        (∀ E114_8 : Int32 → Prop,
        (∀ (v8_7 : Int32), 
          (wp_X10_taking x_places x_takes v8_7 q2 (fun r_9 =>
          (¬ q2 = (nI 5) →
            ∀ v3_10 : Int32, v3_10 = v3 ||| (r_9 ||| (nI 0)) →
            ∀ v4_11 : Int32, v4_11 = v4 + (nI 1) →
            lp_X10_goes_5 x_rules x_places x_rule x_takes x_behind x_slot q1 q2 E150 n v3_10 v4_11) ∧
          (q2 = (nI 5) →
            (¬ (v5_3 - v5_3 / (nI 2) * (nI 2)) = (nI 1) →
              ∀ v3_12 : Int32, v3_12 = v3 ||| (r_9 ||| (nI 0)) →
              ∀ v4_13 : Int32, v4_13 = v4 + (nI 1) →
              lp_X10_goes_5 x_rules x_places x_rule x_takes x_behind x_slot q1 q2 E150 n v3_12 v4_13) ∧
            ((v5_3 - v5_3 / (nI 2) * (nI 2)) = (nI 1) →
              ∀ v3_14 : Int32, v3_14 = v3 ||| (r_9 ||| v6_4) →
              ∀ v4_15 : Int32, v4_15 = v4 + (nI 1) →
              lp_X10_goes_5 x_rules x_places x_rule x_takes x_behind x_slot q1 q2 E150 n v3_14 v4_15)))) →
         E114_8 v8_7) →
        ∃ n : Nat, lp_X10_goes_73 x_places x_behind s0_5 E114_8 n (nI 0) (nI 0)) →
       J65_6 s0_5) →
      (v5_3 ≤ (nI 1) →
          J65_6 v6_4) ∧
        (¬ v5_3 ≤ (nI 1) →
          vp_in ((nI 4) + v4) 12 ∧
          J65_6 (v6_4 &&& ((x_rule ((nI 4) + v4).toNatClampNeg) ^^^ (-1)))))
def wp_X10_goes (x_rules : Int32) (x_places : Int32) (x_rule : Nat → Int32) (x_takes : Nat → Int32) (x_behind : Nat → Int32) (x_slot : Nat → Int32) (p1 : Int32) (p2 : Int32) (K : Int32 → Prop) : Prop :=
    ∀ E150_2 : Int32 → Prop,
    (∀ (v3_1 : Int32), 
      (K v3_1) →
     E150_2 v3_1) →
    ∃ n : Nat, lp_X10_goes_5 x_rules x_places x_rule x_takes x_behind x_slot p1 p2 E150_2 n (nI 0) (nI 0)

def lp_X10_walks_4 (x_rules : Int32) (x_places : Int32) (x_without : Int32) (x_rule : Nat → Int32) (x_takes : Nat → Int32) (x_behind : Nat → Int32) (x_slot : Nat → Int32) (q1 : Int32) (E102 : (Nat → Int32) → (Nat → Int32) → Prop) : Nat → Int32 → Int32 → (Nat → Int32) → (Nat → Int32) → Prop
  | 0, _, _, _, _ => False
  | n + 1, v2, v3, x_stood, x_parted =>
    vp_in (q1 + (nI 30)) 732 ∧
    ((x_slot (q1 + (nI 30)).toNatClampNeg) ≤ v3 →
      E102 x_stood x_parted) ∧
    (¬ (x_slot (q1 + (nI 30)).toNatClampNeg) ≤ v3 →
      vp_in ((q1 + (nI 31)) + v3) 732 ∧
      vp_in (q1 + (x_slot ((q1 + (nI 31)) + v3).toNatClampNeg)) 732 ∧
      ∀ v4_5 : Int32, v4_5 = x_slot (q1 + (x_slot ((q1 + (nI 31)) + v3).toNatClampNeg)).toNatClampNeg →
      ∀ J52_7 : Int32 → Prop,
      (∀ (s0_6 : Int32), 
        (∀ J69_9 : Int32 → Prop,
        (∀ (s2_8 : Int32), 
          (vp_in v3 31 ∧
          ∀ x_parted_10 : Nat → Int32, x_parted_10 = upd x_parted v3.toNatClampNeg (vp_nar .boolean s2_8) →
          ∀ J86_12 : Int32 → Prop,
          (∀ (s0_11 : Int32), 
            (vp_in (v3 + (nI 1)) 31 ∧
            ∀ x_stood_13 : Nat → Int32, x_stood_13 = upd x_stood (v3 + (nI 1)).toNatClampNeg s0_11 →
            ∀ v3_14 : Int32, v3_14 = v3 + (nI 1) →
            lp_X10_walks_4 x_rules x_places x_without x_rule x_takes x_behind x_slot q1 E102 n s0_11 v3_14 x_stood_13 x_parted_10) →
           J86_12 s0_11) →
          (¬ s0_6 = 0 →
              J86_12 s0_6) ∧
            (s0_6 = 0 →
              wp_X10_begun x_rules x_places x_without x_rule x_takes v4_5 (fun r_15 =>
              J86_12 r_15))) →
         J69_9 s2_8) →
        (¬ s0_6 = 0 →
            J69_9 (nI 0)) ∧
          (s0_6 = 0 →
            J69_9 (nI 1))) →
       J52_7 s0_6) →
      (¬ v3 = 0 →
          wp_X10_goes x_rules x_places x_rule x_takes x_behind x_slot v2 v4_5 (fun r_16 =>
          J52_7 r_16)) ∧
        (v3 = 0 →
          J52_7 (nI 0)))
def wp_X10_walks (x_rules : Int32) (x_places : Int32) (x_without : Int32) (x_rule : Nat → Int32) (x_takes : Nat → Int32) (x_behind : Nat → Int32) (x_slot : Nat → Int32) (x_stood : Nat → Int32) (x_parted : Nat → Int32) (p1 : Int32) (K : (Nat → Int32) → (Nat → Int32) → Prop) : Prop :=
    ∀ E102_3 : (Nat → Int32) → (Nat → Int32) → Prop,
    (∀ (x_stood_1 : Nat → Int32) (x_parted_2 : Nat → Int32), 
      (vp_in (p1 + (nI 30)) 732 ∧
      vp_in (x_slot (p1 + (nI 30)).toNatClampNeg) 31 ∧
      ∀ x_parted_4 : Nat → Int32, x_parted_4 = upd x_parted_2 (x_slot (p1 + (nI 30)).toNatClampNeg).toNatClampNeg (vp_nar .boolean (nI 1)) →
      K x_stood_1 x_parted_4) →
     E102_3 x_stood_1 x_parted_2) →
    ∃ n : Nat, lp_X10_walks_4 x_rules x_places x_without x_rule x_takes x_behind x_slot p1 E102_3 n (nI 0) (nI 0) x_stood x_parted

def lp_X10_pieces_4 (x_slot : Nat → Int32) (x_parted : Nat → Int32) (q1 : Int32) (E40 : Int32 → Prop) : Nat → Int32 → Int32 → Prop
  | 0, _, _ => False
  | n + 1, v2, v3 =>
    vp_in (q1 + (nI 30)) 732 ∧
    ((x_slot (q1 + (nI 30)).toNatClampNeg) ≤ v3 →
      E40 v2) ∧
    (¬ (x_slot (q1 + (nI 30)).toNatClampNeg) ≤ v3 →
      vp_in v3 31 ∧
      ((x_parted v3.toNatClampNeg) = 0 →
        ∀ v2_3 : Int32, v2_3 = v2 + (nI 0) →
        ∀ v3_4 : Int32, v3_4 = v3 + (nI 1) →
        lp_X10_pieces_4 x_slot x_parted q1 E40 n v2_3 v3_4) ∧
      (¬ (x_parted v3.toNatClampNeg) = 0 →
        ∀ v2_5 : Int32, v2_5 = v2 + (nI 1) →
        ∀ v3_6 : Int32, v3_6 = v3 + (nI 1) →
        lp_X10_pieces_4 x_slot x_parted q1 E40 n v2_5 v3_6))
def wp_X10_pieces (x_slot : Nat → Int32) (x_parted : Nat → Int32) (p1 : Int32) (K : Int32 → Prop) : Prop :=
    ∀ E40_2 : Int32 → Prop,
    (∀ (v2_1 : Int32), 
      (K v2_1) →
     E40_2 v2_1) →
    ∃ n : Nat, lp_X10_pieces_4 x_slot x_parted p1 E40_2 n (nI 0) (nI 0)

def wp_X10_isBoundary (x_rules : Int32) (x_places : Int32) (x_without : Int32) (x_rule : Nat → Int32) (x_takes : Nat → Int32) (x_behind : Nat → Int32) (x_slot : Nat → Int32) (x_stood : Nat → Int32) (x_parted : Nat → Int32) (p1 : Int32) (K : Int32 → (Nat → Int32) → (Nat → Int32) → Prop) : Prop :=
    wp_X10_isPlace x_slot p1 (fun r_1 =>
    (¬ r_1 = 0 →
      wp_X10_walks x_rules x_places x_without x_rule x_takes x_behind x_slot x_stood x_parted (nI 0) (fun x_stood_2 x_parted_3 =>
      vp_in p1 31 ∧
      ((x_parted_3 p1.toNatClampNeg) = 0 →
        K (nI 0) x_stood_2 x_parted_3) ∧
      (¬ (x_parted_3 p1.toNatClampNeg) = 0 →
        K (nI 1) x_stood_2 x_parted_3))) ∧
    (r_1 = 0 →
      K (-1) x_stood x_parted))

def lp_X10_boundary_40 (x_slot : Nat → Int32) (x_parted : Nat → Int32) (q3 : Int32) (E68 : Int32 → Prop) (E80 : Prop) : Nat → Int32 → Prop
  | 0, _ => False
  | n + 1, v4 =>
    vp_in (nI 30) 732 ∧
    wp_X10_in v4.toInt64 (lN 0) ((x_slot (nI 30).toNatClampNeg).toInt64) (fun r_11 =>
    (r_11 = 0 →
      E80) ∧
    (¬ r_11 = 0 →
      vp_in v4 31 ∧
      ((x_parted v4.toNatClampNeg) = 0 →
        ∀ v4_12 : Int32, v4_12 = v4 + q3 →
        lp_X10_boundary_40 x_slot x_parted q3 E68 E80 n v4_12) ∧
      (¬ (x_parted v4.toNatClampNeg) = 0 →
        E68 v4)))
def wp_X10_boundary (x_rules : Int32) (x_places : Int32) (x_without : Int32) (x_rule : Nat → Int32) (x_takes : Nat → Int32) (x_behind : Nat → Int32) (x_slot : Nat → Int32) (x_stood : Nat → Int32) (x_parted : Nat → Int32) (p1 : Int32) (p2 : Int32) (K : Int32 → (Nat → Int32) → (Nat → Int32) → Prop) : Prop :=
    wp_X10_isPlace x_slot p1 (fun r_1 =>
    (r_1 = 0 →
      K (-1) x_stood x_parted) ∧
    (¬ r_1 = 0 →
      wp_X10_in p2.toInt64 (lN 0) (lN 1) (fun r_2 =>
      (¬ r_2 = 0 →
        wp_X10_walks x_rules x_places x_without x_rule x_takes x_behind x_slot x_stood x_parted (nI 0) (fun x_stood_3 x_parted_4 =>
        ∀ J34_6 : Int32 → Prop,
        (∀ (s0_5 : Int32), 
          (∀ v4_7 : Int32, v4_7 = p1 + s0_5 →
          ∀ E68_9 : Int32 → Prop,
          (∀ (v4_8 : Int32), 
            (K v4_8 x_stood_3 x_parted_4) →
           E68_9 v4_8) →
          ∀ E80_10 : Prop,
            (
              (K (-4) x_stood_3 x_parted_4) →
             E80_10) →
            ∃ n : Nat, lp_X10_boundary_40 x_slot x_parted_4 s0_5 E68_9 E80_10 n v4_7) →
         J34_6 s0_5) →
        (¬ p2 = 0 →
            J34_6 (-1)) ∧
          (p2 = 0 →
            J34_6 (nI 1)))) ∧
      (r_2 = 0 →
        K (-1) x_stood x_parted))))

def wp_X10_stand (x_rules : Int32) (x_places : Int32) (x_without : Int32) (x_rule : Nat → Int32) (x_takes : Nat → Int32) (x_behind : Nat → Int32) (x_slot : Nat → Int32) (x_stood : Nat → Int32) (x_parted : Nat → Int32) (p1 : Int32) (K : Int32 → (Nat → Int32) → (Nat → Int32) → Prop) : Prop :=
    wp_X10_isPlace x_slot p1 (fun r_1 =>
    (¬ r_1 = 0 →
      wp_X10_walks x_rules x_places x_without x_rule x_takes x_behind x_slot x_stood x_parted (nI 0) (fun x_stood_2 x_parted_3 =>
      (¬ p1 = 0 →
        vp_in p1 31 ∧
        K (x_stood_2 p1.toNatClampNeg) x_stood_2 x_parted_3) ∧
      (p1 = 0 →
        K (-4) x_stood_2 x_parted_3))) ∧
    (r_1 = 0 →
      K (-1) x_stood x_parted))

def lp_X10_rulesIn_5 (x_rules : Int32) (x_rule : Nat → Int32) (q1 : Int32) (q2 : Int32) (E45 : Int32 → Prop) : Nat → Int32 → Int32 → Prop
  | 0, _, _ => False
  | n + 1, v3, v4 =>
    (x_rules ≤ v4 →
      E45 v3) ∧
    (¬ x_rules ≤ v4 →
      vp_in (q2 + v4) 12 ∧
      ((q1 &&& (x_rule (q2 + v4).toNatClampNeg)) = 0 →
        ∀ v3_3 : Int32, v3_3 = v3 ||| (nI 0) →
        ∀ v4_4 : Int32, v4_4 = v4 + (nI 1) →
        lp_X10_rulesIn_5 x_rules x_rule q1 q2 E45 n v3_3 v4_4) ∧
      (¬ (q1 &&& (x_rule (q2 + v4).toNatClampNeg)) = 0 →
        ∀ v3_5 : Int32, v3_5 = v3 ||| ((nI 1) <<< (v4 &&& 31)) →
        ∀ v4_6 : Int32, v4_6 = v4 + (nI 1) →
        lp_X10_rulesIn_5 x_rules x_rule q1 q2 E45 n v3_5 v4_6))
def wp_X10_rulesIn (x_rules : Int32) (x_rule : Nat → Int32) (p1 : Int32) (p2 : Int32) (K : Int32 → Prop) : Prop :=
    ∀ E45_2 : Int32 → Prop,
    (∀ (v3_1 : Int32), 
      (K v3_1) →
     E45_2 v3_1) →
    ∃ n : Nat, lp_X10_rulesIn_5 x_rules x_rule p1 p2 E45_2 n (nI 0) (nI 0)

def lp_X10_piece_79 (x_parted : Nat → Int32) (E95 : Int32 → Prop) : Nat → Int32 → Prop
  | 0, _ => False
  | n + 1, v5 =>
    vp_in v5 31 ∧
    (¬ (x_parted v5.toNatClampNeg) = 0 →
      E95 v5) ∧
    ((x_parted v5.toNatClampNeg) = 0 →
      ∀ v5_15 : Int32, v5_15 = v5 + (nI 1) →
      lp_X10_piece_79 x_parted E95 n v5_15)
def lp_X10_piece_41 (x_parted : Nat → Int32) (q1 : Int32) (E70 : Int32 → Prop) : Nat → Int32 → Int32 → Prop
  | 0, _, _ => False
  | n + 1, v3, v4 =>
    (q1 ≤ v3 →
      E70 v4) ∧
    (¬ q1 ≤ v3 →
      vp_in v4 31 ∧
      ((x_parted v4.toNatClampNeg) = 0 →
        ∀ v3_18 : Int32, v3_18 = v3 + (nI 0) →
        ∀ v4_19 : Int32, v4_19 = v4 + (nI 1) →
        lp_X10_piece_41 x_parted q1 E70 n v3_18 v4_19) ∧
      (¬ (x_parted v4.toNatClampNeg) = 0 →
        ∀ v3_20 : Int32, v3_20 = v3 + (nI 1) →
        ∀ v4_21 : Int32, v4_21 = v4 + (nI 1) →
        lp_X10_piece_41 x_parted q1 E70 n v3_20 v4_21))
def wp_X10_piece (x_rules : Int32) (x_places : Int32) (x_without : Int32) (x_rule : Nat → Int32) (x_takes : Nat → Int32) (x_behind : Nat → Int32) (x_slot : Nat → Int32) (x_stood : Nat → Int32) (x_parted : Nat → Int32) (p1 : Int32) (p2 : Int32) (K : Int32 → (Nat → Int32) → (Nat → Int32) → Prop) : Prop :=
    wp_X10_walks x_rules x_places x_without x_rule x_takes x_behind x_slot x_stood x_parted (nI 0) (fun x_stood_1 x_parted_2 =>
    wp_X10_pieces x_slot x_parted_2 (nI 0) (fun r_3 =>
    wp_X10_in p1.toInt64 (lN 0) ((r_3 - (nI 1)).toInt64) (fun r_4 =>
    (r_4 = 0 →
      K (-1) x_stood_1 x_parted_2) ∧
    (¬ r_4 = 0 →
      wp_X10_in p2.toInt64 (lN 0) (lN 3) (fun r_5 =>
      (¬ r_5 = 0 →
        ∀ E70_7 : Int32 → Prop,
        (∀ (v4_6 : Int32), 
          (∀ v4_8 : Int32, v4_8 = v4_6 + (-1) →
          ∀ v5_9 : Int32, v5_9 = v4_8 + (nI 1) →
          ∀ E95_11 : Int32 → Prop,
          (∀ (v5_10 : Int32), 
            ((¬ p2 = 0 →
              (¬ p2 = (nI 1) →
                vp_in v5_10 31 ∧
                ∀ J136_13 : Int32 → Prop,
                (∀ (s2_12 : Int32), 
                  (wp_X10_rulesIn x_rules x_rule (x_stood_1 v5_10.toNatClampNeg) s2_12 (fun r_14 =>
                  K r_14 x_stood_1 x_parted_2)) →
                 J136_13 s2_12) →
                (¬ p2 = (nI 2) →
                    J136_13 (nI 8)) ∧
                  (p2 = (nI 2) →
                    J136_13 (nI 4))) ∧
              (p2 = (nI 1) →
                K (v5_10 - v4_8) x_stood_1 x_parted_2)) ∧
            (p2 = 0 →
              K v4_8 x_stood_1 x_parted_2)) →
           E95_11 v5_10) →
          ∃ n : Nat, lp_X10_piece_79 x_parted_2 E95_11 n v5_9) →
         E70_7 v4_6) →
        ∃ n : Nat, lp_X10_piece_41 x_parted_2 p1 E70_7 n (-1) (nI 0)) ∧
      (r_5 = 0 →
        K (-1) x_stood_1 x_parted_2))))))

def wp_X10_meets (x_ways : Int32) (x_way : Nat → Int32) (x_at : Nat → Int32) (p1 : Int32) (K : Int32 → (Nat → Int32) → (Nat → Int32) → Prop) : Prop :=
    vp_in p1 1024 ∧
    (0 ≤ (x_at p1.toNatClampNeg) →
      K x_ways x_way x_at) ∧
    (¬ 0 ≤ (x_at p1.toNatClampNeg) →
      vp_in p1 1024 ∧
      ∀ x_at_1 : Nat → Int32, x_at_1 = upd x_at p1.toNatClampNeg x_ways →
      vp_in x_ways 1024 ∧
      ∀ x_way_2 : Nat → Int32, x_way_2 = upd x_way x_ways.toNatClampNeg p1 →
      ∀ x_ways_3 : Int32, x_ways_3 = x_ways + (nI 1) →
      K x_ways_3 x_way_2 x_at_1)

def lp_X10_allWays_62 (x_rules : Int32) (x_places : Int32) (x_without : Int32) (x_rule : Nat → Int32) (x_takes : Nat → Int32) (x_behind : Nat → Int32) (x_slot : Nat → Int32) (q1 : Int32) (E133 : Int32 → (Nat → Int32) → (Nat → Int32) → (Nat → Int32) → Prop) : Nat → Int32 → Int32 → (Nat → Int32) → (Nat → Int32) → (Nat → Int32) → Prop
  | 0, _, _, _, _, _ => False
  | n + 1, v2, x_ways, x_way, x_at, x_on =>
    ((nI 6) ≤ v2 →
      E133 x_ways x_way x_at x_on) ∧
    (¬ (nI 6) ≤ v2 →
      vp_in q1 1024 ∧
      wp_X10_goes x_rules x_places x_rule x_takes x_behind x_slot (x_way q1.toNatClampNeg) v2 (fun r_18 =>
      ∀ J89_22 : Int32 → (Nat → Int32) → (Nat → Int32) → Prop,
      (∀ (x_ways_19 : Int32) (x_way_20 : Nat → Int32) (x_at_21 : Nat → Int32), 
        ((¬ r_18 = 0 →
          vp_in r_18 1024 ∧
          ∀ t_23 : Int32, t_23 = x_at_21 r_18.toNatClampNeg →
          vp_in (((nI 6) * q1) + v2) 6144 ∧
          ∀ x_on_24 : Nat → Int32, x_on_24 = upd x_on (((nI 6) * q1) + v2).toNatClampNeg t_23 →
          ∀ v2_25 : Int32, v2_25 = v2 + (nI 1) →
          lp_X10_allWays_62 x_rules x_places x_without x_rule x_takes x_behind x_slot q1 E133 n v2_25 x_ways_19 x_way_20 x_at_21 x_on_24) ∧
        (r_18 = 0 →
          wp_X10_begun x_rules x_places x_without x_rule x_takes v2 (fun r_26 =>
          vp_in r_26 1024 ∧
          ∀ t_27 : Int32, t_27 = (nI 1024) + (x_at_21 r_26.toNatClampNeg) →
          vp_in (((nI 6) * q1) + v2) 6144 ∧
          ∀ x_on_28 : Nat → Int32, x_on_28 = upd x_on (((nI 6) * q1) + v2).toNatClampNeg t_27 →
          ∀ v2_29 : Int32, v2_29 = v2 + (nI 1) →
          lp_X10_allWays_62 x_rules x_places x_without x_rule x_takes x_behind x_slot q1 E133 n v2_29 x_ways_19 x_way_20 x_at_21 x_on_28))) →
       J89_22 x_ways_19 x_way_20 x_at_21) →
      (r_18 = 0 →
          J89_22 x_ways x_way x_at) ∧
        (¬ r_18 = 0 →
          wp_X10_meets x_ways x_way x_at r_18 (fun x_ways_30 x_way_31 x_at_32 =>
          J89_22 x_ways_30 x_way_31 x_at_32))))
def lp_X10_allWays_52 (x_rules : Int32) (x_places : Int32) (x_without : Int32) (x_rule : Nat → Int32) (x_takes : Nat → Int32) (x_behind : Nat → Int32) (x_slot : Nat → Int32) (E139 : Int32 → (Nat → Int32) → (Nat → Int32) → (Nat → Int32) → Prop) : Nat → Int32 → Int32 → (Nat → Int32) → (Nat → Int32) → (Nat → Int32) → Prop
  | 0, _, _, _, _, _ => False
  | n + 1, v1, x_ways, x_way, x_at, x_on =>
    (x_ways ≤ v1 →
      E139 x_ways x_way x_at x_on) ∧
    (¬ x_ways ≤ v1 →
      ∀ E133_16 : Int32 → (Nat → Int32) → (Nat → Int32) → (Nat → Int32) → Prop,
      (∀ (x_ways_12 : Int32) (x_way_13 : Nat → Int32) (x_at_14 : Nat → Int32) (x_on_15 : Nat → Int32), 
        (∀ v1_17 : Int32, v1_17 = v1 + (nI 1) →
        lp_X10_allWays_52 x_rules x_places x_without x_rule x_takes x_behind x_slot E139 n v1_17 x_ways_12 x_way_13 x_at_14 x_on_15) →
       E133_16 x_ways_12 x_way_13 x_at_14 x_on_15) →
      ∃ n : Nat, lp_X10_allWays_62 x_rules x_places x_without x_rule x_takes x_behind x_slot v1 E133_16 n (nI 0) x_ways x_way x_at x_on)
def lp_X10_allWays_29 (x_rules : Int32) (x_places : Int32) (x_without : Int32) (x_rule : Nat → Int32) (x_takes : Nat → Int32) (E50 : Int32 → (Nat → Int32) → (Nat → Int32) → Prop) : Nat → Int32 → Int32 → (Nat → Int32) → (Nat → Int32) → Prop
  | 0, _, _, _, _ => False
  | n + 1, v1, x_ways, x_way, x_at =>
    ((nI 6) ≤ v1 →
      E50 x_ways x_way x_at) ∧
    (¬ (nI 6) ≤ v1 →
      wp_X10_begun x_rules x_places x_without x_rule x_takes v1 (fun r_84 =>
      wp_X10_meets x_ways x_way x_at r_84 (fun x_ways_85 x_way_86 x_at_87 =>
      ∀ v1_88 : Int32, v1_88 = v1 + (nI 1) →
      lp_X10_allWays_29 x_rules x_places x_without x_rule x_takes E50 n v1_88 x_ways_85 x_way_86 x_at_87)))
def lp_X10_allWays_2 (E22 : (Nat → Int32) → Prop) : Nat → Int32 → (Nat → Int32) → Prop
  | 0, _, _ => False
  | n + 1, v1, x_at =>
    ((nI 1024) ≤ v1 →
      E22 x_at) ∧
    (¬ (nI 1024) ≤ v1 →
      vp_in v1 1024 ∧
      ∀ x_at_98 : Nat → Int32, x_at_98 = upd x_at v1.toNatClampNeg (-1) →
      ∀ v1_99 : Int32, v1_99 = v1 + (nI 1) →
      lp_X10_allWays_2 E22 n v1_99 x_at_98)
def wp_X10_allWays (x_rules : Int32) (x_places : Int32) (x_without : Int32) (x_ways : Int32) (x_rule : Nat → Int32) (x_takes : Nat → Int32) (x_behind : Nat → Int32) (x_slot : Nat → Int32) (x_way : Nat → Int32) (x_at : Nat → Int32) (x_on : Nat → Int32) (K : Int32 → (Nat → Int32) → (Nat → Int32) → (Nat → Int32) → Prop) : Prop :=
    ∀ E22_2 : (Nat → Int32) → Prop,
    (∀ (x_at_1 : Nat → Int32), 
      (∀ E50_6 : Int32 → (Nat → Int32) → (Nat → Int32) → Prop,
      (∀ (x_ways_3 : Int32) (x_way_4 : Nat → Int32) (x_at_5 : Nat → Int32), 
        (∀ E139_11 : Int32 → (Nat → Int32) → (Nat → Int32) → (Nat → Int32) → Prop,
        (∀ (x_ways_7 : Int32) (x_way_8 : Nat → Int32) (x_at_9 : Nat → Int32) (x_on_10 : Nat → Int32), 
          (K x_ways_7 x_way_8 x_at_9 x_on_10) →
         E139_11 x_ways_7 x_way_8 x_at_9 x_on_10) →
        ∃ n : Nat, lp_X10_allWays_52 x_rules x_places x_without x_rule x_takes x_behind x_slot E139_11 n (nI 0) x_ways_3 x_way_4 x_at_5 x_on) →
       E50_6 x_ways_3 x_way_4 x_at_5) →
      ∃ n : Nat, lp_X10_allWays_29 x_rules x_places x_without x_rule x_takes E50_6 n (nI 0) (nI 0) x_way x_at_1) →
     E22_2 x_at_1) →
    ∃ n : Nat, lp_X10_allWays_2 E22_2 n (nI 0) x_at

def lp_X10_isFiner_24 (x_alike : Nat → Int32) (x_on : Nat → Int32) (q1 : Int32) (q2 : Int32) (E115 : Int32 → Prop) : Nat → Int32 → Int32 → Prop
  | 0, _, _ => False
  | n + 1, v3, v4 =>
    ((nI 6) ≤ v4 →
      E115 v3) ∧
    (¬ (nI 6) ≤ v4 →
      (v3 = 0 →
        E115 v3) ∧
      (¬ v3 = 0 →
        vp_in (((nI 6) * q1) + v4) 6144 ∧
        ∀ v5_5 : Int32, v5_5 = x_on (((nI 6) * q1) + v4).toNatClampNeg →
        vp_in (((nI 6) * q2) + v4) 6144 ∧
        ∀ v6_6 : Int32, v6_6 = x_on (((nI 6) * q2) + v4).toNatClampNeg →
        (¬ (v5_5 / (nI 1024)) = (v6_6 / (nI 1024)) →
          ∀ v4_7 : Int32, v4_7 = v4 + (nI 1) →
          lp_X10_isFiner_24 x_alike x_on q1 q2 E115 n (nI 0) v4_7) ∧
        ((v5_5 / (nI 1024)) = (v6_6 / (nI 1024)) →
          vp_in (v5_5 - v5_5 / (nI 1024) * (nI 1024)) 1024 ∧
          vp_in (v6_6 - v6_6 / (nI 1024) * (nI 1024)) 1024 ∧
          (¬ (x_alike (v5_5 - v5_5 / (nI 1024) * (nI 1024)).toNatClampNeg) = (x_alike (v6_6 - v6_6 / (nI 1024) * (nI 1024)).toNatClampNeg) →
            ∀ v4_8 : Int32, v4_8 = v4 + (nI 1) →
            lp_X10_isFiner_24 x_alike x_on q1 q2 E115 n (nI 0) v4_8) ∧
          ((x_alike (v5_5 - v5_5 / (nI 1024) * (nI 1024)).toNatClampNeg) = (x_alike (v6_6 - v6_6 / (nI 1024) * (nI 1024)).toNatClampNeg) →
            ∀ v4_9 : Int32, v4_9 = v4 + (nI 1) →
            lp_X10_isFiner_24 x_alike x_on q1 q2 E115 n (nI 1) v4_9))))
def wp_X10_isFiner (x_alike : Nat → Int32) (x_on : Nat → Int32) (p1 : Int32) (p2 : Int32) (K : Int32 → Prop) : Prop :=
    vp_in p1 1024 ∧
    vp_in p2 1024 ∧
    ∀ J20_2 : Int32 → Prop,
    (∀ (s0_1 : Int32), 
      (∀ E115_4 : Int32 → Prop,
      (∀ (v3_3 : Int32), 
        (narrow .boolean (.int v3_3) = .int v3_3 ∧
        K v3_3) →
       E115_4 v3_3) →
      ∃ n : Nat, lp_X10_isFiner_24 x_alike x_on p1 p2 E115_4 n s0_1 (nI 0)) →
     J20_2 s0_1) →
    (¬ (x_alike p1.toNatClampNeg) = (x_alike p2.toNatClampNeg) →
        J20_2 (nI 0)) ∧
      ((x_alike p1.toNatClampNeg) = (x_alike p2.toNatClampNeg) →
        J20_2 (nI 1))

def lp_X10_unlikeWays_116 (x_ways : Int32) (x_finer : Nat → Int32) (E142 : (Nat → Int32) → Prop) : Nat → Int32 → (Nat → Int32) → Prop
  | 0, _, _ => False
  | n + 1, v3, x_alike =>
    (x_ways ≤ v3 →
      E142 x_alike) ∧
    (¬ x_ways ≤ v3 →
      vp_in v3 1024 ∧
      ∀ t_12 : Int32, t_12 = x_finer v3.toNatClampNeg →
      vp_in v3 1024 ∧
      ∀ x_alike_13 : Nat → Int32, x_alike_13 = upd x_alike v3.toNatClampNeg t_12 →
      ∀ v3_14 : Int32, v3_14 = v3 + (nI 1) →
      lp_X10_unlikeWays_116 x_ways x_finer E142 n v3_14 x_alike_13)
def lp_X10_unlikeWays_49 (x_alike : Nat → Int32) (x_on : Nat → Int32) (q3 : Int32) (E71 : Int32 → Prop) : Nat → Int32 → Prop
  | 0, _ => False
  | n + 1, v4 =>
    (q3 ≤ v4 →
      E71 v4) ∧
    (¬ q3 ≤ v4 →
      wp_X10_isFiner x_alike x_on v4 q3 (fun r_29 =>
      (¬ r_29 = 0 →
        E71 v4) ∧
      (r_29 = 0 →
        ∀ v4_30 : Int32, v4_30 = v4 + (nI 1) →
        lp_X10_unlikeWays_49 x_alike x_on q3 E71 n v4_30)))
def lp_X10_unlikeWays_38 (x_ways : Int32) (x_alike : Nat → Int32) (x_on : Nat → Int32) (E114 : Int32 → (Nat → Int32) → Prop) : Nat → Int32 → Int32 → (Nat → Int32) → Prop
  | 0, _, _, _ => False
  | n + 1, v1, v3, x_finer =>
    (x_ways ≤ v3 →
      E114 v1 x_finer) ∧
    (¬ x_ways ≤ v3 →
      ∀ E71_21 : Int32 → Prop,
      (∀ (v4_20 : Int32), 
        (∀ J93_23 : Int32 → Prop,
        (∀ (s2_22 : Int32), 
          (vp_in v3 1024 ∧
          ∀ x_finer_24 : Nat → Int32, x_finer_24 = upd x_finer v3.toNatClampNeg s2_22 →
          (¬ v4_20 = v3 →
            ∀ v1_25 : Int32, v1_25 = v1 + (nI 0) →
            ∀ v3_26 : Int32, v3_26 = v3 + (nI 1) →
            lp_X10_unlikeWays_38 x_ways x_alike x_on E114 n v1_25 v3_26 x_finer_24) ∧
          (v4_20 = v3 →
            ∀ v1_27 : Int32, v1_27 = v1 + (nI 1) →
            ∀ v3_28 : Int32, v3_28 = v3 + (nI 1) →
            lp_X10_unlikeWays_38 x_ways x_alike x_on E114 n v1_27 v3_28 x_finer_24)) →
         J93_23 s2_22) →
        (¬ v4_20 = v3 →
            vp_in v4_20 1024 ∧
            J93_23 (x_finer v4_20.toNatClampNeg)) ∧
          (v4_20 = v3 →
            J93_23 v1)) →
       E71_21 v4_20) →
      ∃ n : Nat, lp_X10_unlikeWays_49 x_alike x_on v3 E71_21 n (nI 0))
def lp_X10_unlikeWays_27 (x_ways : Int32) (x_on : Nat → Int32) (E145 : Int32 → (Nat → Int32) → (Nat → Int32) → Prop) : Nat → Int32 → Int32 → (Nat → Int32) → (Nat → Int32) → Prop
  | 0, _, _, _, _ => False
  | n + 1, v1, v2, x_alike, x_finer =>
    (v1 = v2 →
      E145 v1 x_alike x_finer) ∧
    (¬ v1 = v2 →
      ∀ E114_9 : Int32 → (Nat → Int32) → Prop,
      (∀ (v1_7 : Int32) (x_finer_8 : Nat → Int32), 
        (∀ E142_11 : (Nat → Int32) → Prop,
        (∀ (x_alike_10 : Nat → Int32), 
          (lp_X10_unlikeWays_27 x_ways x_on E145 n v1_7 v1 x_alike_10 x_finer_8) →
         E142_11 x_alike_10) →
        ∃ n : Nat, lp_X10_unlikeWays_116 x_ways x_finer_8 E142_11 n (nI 0) x_alike) →
       E114_9 v1_7 x_finer_8) →
      ∃ n : Nat, lp_X10_unlikeWays_38 x_ways x_alike x_on E114_9 n (nI 0) (nI 0) x_finer)
def lp_X10_unlikeWays_6 (x_ways : Int32) (E27 : (Nat → Int32) → Prop) : Nat → Int32 → (Nat → Int32) → Prop
  | 0, _, _ => False
  | n + 1, v3, x_alike =>
    (x_ways ≤ v3 →
      E27 x_alike) ∧
    (¬ x_ways ≤ v3 →
      vp_in v3 1024 ∧
      ∀ x_alike_78 : Nat → Int32, x_alike_78 = upd x_alike v3.toNatClampNeg (nI 0) →
      ∀ v3_79 : Int32, v3_79 = v3 + (nI 1) →
      lp_X10_unlikeWays_6 x_ways E27 n v3_79 x_alike_78)
def wp_X10_unlikeWays (x_ways : Int32) (x_alike : Nat → Int32) (x_finer : Nat → Int32) (x_on : Nat → Int32) (K : Int32 → (Nat → Int32) → (Nat → Int32) → Prop) : Prop :=
    ∀ E27_2 : (Nat → Int32) → Prop,
    (∀ (x_alike_1 : Nat → Int32), 
      (∀ E145_6 : Int32 → (Nat → Int32) → (Nat → Int32) → Prop,
      (∀ (v1_3 : Int32) (x_alike_4 : Nat → Int32) (x_finer_5 : Nat → Int32), 
        (K v1_3 x_alike_4 x_finer_5) →
       E145_6 v1_3 x_alike_4 x_finer_5) →
      ∃ n : Nat, lp_X10_unlikeWays_27 x_ways x_on E145_6 n (nI 1) (nI 0) x_alike_1 x_finer) →
     E27_2 x_alike_1) →
    ∃ n : Nat, lp_X10_unlikeWays_6 x_ways E27_2 n (nI 0) x_alike

def wp_X10_behindOne (x_rules : Int32) (x_places : Int32) (x_without : Int32) (x_rule : Nat → Int32) (x_takes : Nat → Int32) (x_behind : Nat → Int32) (x_slot : Nat → Int32) (p1 : Int32) (p2 : Int32) (K : Int32 → Prop) : Prop :=
    wp_X10_goes x_rules x_places x_rule x_takes x_behind x_slot p1 p2 (fun r_1 =>
    (¬ r_1 = 0 →
      K r_1) ∧
    (r_1 = 0 →
      wp_X10_begun x_rules x_places x_without x_rule x_takes p2 (fun r_2 =>
      K r_2)))

def lp_X10_isKnown_17 (x_rules : Int32) (x_places : Int32) (x_without : Int32) (x_ways : Int32) (x_rule : Nat → Int32) (x_takes : Nat → Int32) (x_behind : Nat → Int32) (x_slot : Nat → Int32) (x_way : Nat → Int32) (q1 : Int32) (q2 : Int32) (q3 : Int32) (E65 : Int32 → Prop) : Nat → Int32 → Int32 → Prop
  | 0, _, _ => False
  | n + 1, v4, v5 =>
    (x_ways ≤ v5 →
      E65 v4) ∧
    (¬ x_ways ≤ v5 →
      (v4 = 0 →
        E65 v4) ∧
      (¬ v4 = 0 →
        vp_in v5 1024 ∧
        wp_X10_behindOne x_rules x_places x_without x_rule x_takes x_behind x_slot (x_way v5.toNatClampNeg) q1 (fun r_5 =>
        wp_X10_behindOne x_rules x_places x_without x_rule x_takes x_behind x_slot r_5 q2 (fun r_6 =>
        (¬ r_6 = q3 →
          ∀ v5_7 : Int32, v5_7 = v5 + (nI 1) →
          lp_X10_isKnown_17 x_rules x_places x_without x_ways x_rule x_takes x_behind x_slot x_way q1 q2 q3 E65 n (nI 0) v5_7) ∧
        (r_6 = q3 →
          ∀ v5_8 : Int32, v5_8 = v5 + (nI 1) →
          lp_X10_isKnown_17 x_rules x_places x_without x_ways x_rule x_takes x_behind x_slot x_way q1 q2 q3 E65 n (nI 1) v5_8)))))
def wp_X10_isKnown (x_rules : Int32) (x_places : Int32) (x_without : Int32) (x_ways : Int32) (x_rule : Nat → Int32) (x_takes : Nat → Int32) (x_behind : Nat → Int32) (x_slot : Nat → Int32) (x_way : Nat → Int32) (p1 : Int32) (p2 : Int32) (K : Int32 → Prop) : Prop :=
    wp_X10_begun x_rules x_places x_without x_rule x_takes p1 (fun r_1 =>
    wp_X10_behindOne x_rules x_places x_without x_rule x_takes x_behind x_slot r_1 p2 (fun r_2 =>
    ∀ E65_4 : Int32 → Prop,
    (∀ (v4_3 : Int32), 
      (narrow .boolean (.int v4_3) = .int v4_3 ∧
      K v4_3) →
     E65_4 v4_3) →
    ∃ n : Nat, lp_X10_isKnown_17 x_rules x_places x_without x_ways x_rule x_takes x_behind x_slot x_way p1 p2 r_2 E65_4 n (nI 1) (nI 0)))

def lp_X10_backFrom_2 (x_rules : Int32) (x_places : Int32) (x_without : Int32) (x_ways : Int32) (x_rule : Nat → Int32) (x_takes : Nat → Int32) (x_behind : Nat → Int32) (x_slot : Nat → Int32) (x_way : Nat → Int32) (E50 : Int32 → Prop) (E58 : Prop) : Nat → Int32 → Prop
  | 0, _ => False
  | n + 1, v2 =>
    (v2 ≤ 0 →
      E58) ∧
    (¬ v2 ≤ 0 →
      (v2 ≤ (nI 1) →
        ∀ v2_4 : Int32, v2_4 = v2 + (-1) →
        lp_X10_backFrom_2 x_rules x_places x_without x_ways x_rule x_takes x_behind x_slot x_way E50 E58 n v2_4) ∧
      (¬ v2 ≤ (nI 1) →
        vp_in (((nI 31) + v2) - (nI 2)) 732 ∧
        vp_in (x_slot (((nI 31) + v2) - (nI 2)).toNatClampNeg) 732 ∧
        vp_in (((nI 31) + v2) - (nI 1)) 732 ∧
        vp_in (x_slot (((nI 31) + v2) - (nI 1)).toNatClampNeg) 732 ∧
        wp_X10_isKnown x_rules x_places x_without x_ways x_rule x_takes x_behind x_slot x_way (x_slot (x_slot (((nI 31) + v2) - (nI 2)).toNatClampNeg).toNatClampNeg) (x_slot (x_slot (((nI 31) + v2) - (nI 1)).toNatClampNeg).toNatClampNeg) (fun r_5 =>
        (r_5 = 0 →
          ∀ v2_6 : Int32, v2_6 = v2 + (-1) →
          lp_X10_backFrom_2 x_rules x_places x_without x_ways x_rule x_takes x_behind x_slot x_way E50 E58 n v2_6) ∧
        (¬ r_5 = 0 →
          E50 v2))))
def wp_X10_backFrom (x_rules : Int32) (x_places : Int32) (x_without : Int32) (x_ways : Int32) (x_rule : Nat → Int32) (x_takes : Nat → Int32) (x_behind : Nat → Int32) (x_slot : Nat → Int32) (x_way : Nat → Int32) (p1 : Int32) (K : Int32 → Prop) : Prop :=
    ∀ E50_2 : Int32 → Prop,
    (∀ (v2_1 : Int32), 
      (K v2_1) →
     E50_2 v2_1) →
    ∀ E58_3 : Prop,
      (
        (K (nI 0)) →
       E58_3) →
      ∃ n : Nat, lp_X10_backFrom_2 x_rules x_places x_without x_ways x_rule x_takes x_behind x_slot x_way E50_2 E58_3 n p1

def lp_X10_fours_31 (x_slot : Nat → Int32) (q2 : Int32) (q4 : Int32) (E100 : Int32 → Prop) : Nat → Int32 → Int32 → Prop
  | 0, _, _ => False
  | n + 1, v5, v6 =>
    ((nI 4) ≤ v6 →
      E100 v5) ∧
    (¬ (nI 4) ≤ v6 →
      ∀ J63_14 : Int32 → Prop,
      (∀ (s0_13 : Int32), 
        ((v5 = 0 →
          ∀ v6_15 : Int32, v6_15 = v6 + (nI 1) →
          lp_X10_fours_31 x_slot q2 q4 E100 n (nI 0) v6_15) ∧
        (¬ v5 = 0 →
          vp_in (((nI 4) * q4) + v6) 732 ∧
          (¬ s0_13 = (x_slot (((nI 4) * q4) + v6).toNatClampNeg) →
            ∀ v6_16 : Int32, v6_16 = v6 + (nI 1) →
            lp_X10_fours_31 x_slot q2 q4 E100 n (nI 0) v6_16) ∧
          (s0_13 = (x_slot (((nI 4) * q4) + v6).toNatClampNeg) →
            ∀ v6_17 : Int32, v6_17 = v6 + (nI 1) →
            lp_X10_fours_31 x_slot q2 q4 E100 n (nI 1) v6_17))) →
       J63_14 s0_13) →
      ((nI 26) ≤ (((nI 4) * q2) + v6) →
          J63_14 (nI 0)) ∧
        (¬ (nI 26) ≤ (((nI 4) * q2) + v6) →
          vp_in (((nI 4) * q2) + v6) 732 ∧
          J63_14 (x_slot (((nI 4) * q2) + v6).toNatClampNeg)))
def lp_X10_fours_15 (x_slot : Nat → Int32) (q2 : Int32) (E117 : Int32 → Prop) : Nat → Int32 → Int32 → Prop
  | 0, _, _ => False
  | n + 1, v3, v4 =>
    (q2 ≤ v4 →
      E117 v3) ∧
    (¬ q2 ≤ v4 →
      (v3 = 0 →
        E117 v3) ∧
      (¬ v3 = 0 →
        ∀ E100_10 : Int32 → Prop,
        (∀ (v5_9 : Int32), 
          ((¬ v5_9 = 0 →
            ∀ v4_11 : Int32, v4_11 = v4 + (nI 1) →
            lp_X10_fours_15 x_slot q2 E117 n (nI 0) v4_11) ∧
          (v5_9 = 0 →
            ∀ v4_12 : Int32, v4_12 = v4 + (nI 1) →
            lp_X10_fours_15 x_slot q2 E117 n (nI 1) v4_12)) →
         E100_10 v5_9) →
        ∃ n : Nat, lp_X10_fours_31 x_slot q2 v4 E100_10 n (nI 1) (nI 0)))
def lp_X10_fours_4 (x_slot : Nat → Int32) (E135 : Int32 → Prop) : Nat → Int32 → Int32 → Prop
  | 0, _, _ => False
  | n + 1, v1, v2 =>
    ((nI 7) ≤ v2 →
      E135 v1) ∧
    (¬ (nI 7) ≤ v2 →
      ∀ E117_4 : Int32 → Prop,
      (∀ (v3_3 : Int32), 
        ((v3_3 = 0 →
          ∀ v1_5 : Int32, v1_5 = v1 + (nI 0) →
          ∀ v2_6 : Int32, v2_6 = v2 + (nI 1) →
          lp_X10_fours_4 x_slot E135 n v1_5 v2_6) ∧
        (¬ v3_3 = 0 →
          ∀ v1_7 : Int32, v1_7 = v1 + (nI 1) →
          ∀ v2_8 : Int32, v2_8 = v2 + (nI 1) →
          lp_X10_fours_4 x_slot E135 n v1_7 v2_8)) →
       E117_4 v3_3) →
      ∃ n : Nat, lp_X10_fours_15 x_slot v2 E117_4 n (nI 1) (nI 0))
def wp_X10_fours (x_slot : Nat → Int32) (K : Int32 → Prop) : Prop :=
    ∀ E135_2 : Int32 → Prop,
    (∀ (v1_1 : Int32), 
      (K v1_1) →
     E135_2 v1_1) →
    ∃ n : Nat, lp_X10_fours_4 x_slot E135_2 n (nI 0) (nI 0)

def lp_X10_knownPairs_12 (x_rules : Int32) (x_places : Int32) (x_without : Int32) (x_ways : Int32) (x_rule : Nat → Int32) (x_takes : Nat → Int32) (x_behind : Nat → Int32) (x_slot : Nat → Int32) (x_way : Nat → Int32) (q2 : Int32) (E41 : Int32 → Prop) : Nat → Int32 → Int32 → Prop
  | 0, _, _ => False
  | n + 1, v1, v3 =>
    ((nI 6) ≤ v3 →
      E41 v1) ∧
    (¬ (nI 6) ≤ v3 →
      wp_X10_isKnown x_rules x_places x_without x_ways x_rule x_takes x_behind x_slot x_way q2 v3 (fun r_6 =>
      (r_6 = 0 →
        ∀ v1_7 : Int32, v1_7 = v1 + (nI 0) →
        ∀ v3_8 : Int32, v3_8 = v3 + (nI 1) →
        lp_X10_knownPairs_12 x_rules x_places x_without x_ways x_rule x_takes x_behind x_slot x_way q2 E41 n v1_7 v3_8) ∧
      (¬ r_6 = 0 →
        ∀ v1_9 : Int32, v1_9 = v1 + (nI 1) →
        ∀ v3_10 : Int32, v3_10 = v3 + (nI 1) →
        lp_X10_knownPairs_12 x_rules x_places x_without x_ways x_rule x_takes x_behind x_slot x_way q2 E41 n v1_9 v3_10)))
def lp_X10_knownPairs_4 (x_rules : Int32) (x_places : Int32) (x_without : Int32) (x_ways : Int32) (x_rule : Nat → Int32) (x_takes : Nat → Int32) (x_behind : Nat → Int32) (x_slot : Nat → Int32) (x_way : Nat → Int32) (E47 : Int32 → Prop) : Nat → Int32 → Int32 → Prop
  | 0, _, _ => False
  | n + 1, v1, v2 =>
    ((nI 6) ≤ v2 →
      E47 v1) ∧
    (¬ (nI 6) ≤ v2 →
      ∀ E41_4 : Int32 → Prop,
      (∀ (v1_3 : Int32), 
        (∀ v2_5 : Int32, v2_5 = v2 + (nI 1) →
        lp_X10_knownPairs_4 x_rules x_places x_without x_ways x_rule x_takes x_behind x_slot x_way E47 n v1_3 v2_5) →
       E41_4 v1_3) →
      ∃ n : Nat, lp_X10_knownPairs_12 x_rules x_places x_without x_ways x_rule x_takes x_behind x_slot x_way v2 E41_4 n v1 (nI 0))
def wp_X10_knownPairs (x_rules : Int32) (x_places : Int32) (x_without : Int32) (x_ways : Int32) (x_rule : Nat → Int32) (x_takes : Nat → Int32) (x_behind : Nat → Int32) (x_slot : Nat → Int32) (x_way : Nat → Int32) (K : Int32 → Prop) : Prop :=
    ∀ E47_2 : Int32 → Prop,
    (∀ (v1_1 : Int32), 
      (K v1_1) →
     E47_2 v1_1) →
    ∃ n : Nat, lp_X10_knownPairs_4 x_rules x_places x_without x_ways x_rule x_takes x_behind x_slot x_way E47_2 n (nI 0) (nI 0)

def lp_X10_farthest_4 (x_rules : Int32) (x_places : Int32) (x_without : Int32) (x_ways : Int32) (x_rule : Nat → Int32) (x_takes : Nat → Int32) (x_behind : Nat → Int32) (x_slot : Nat → Int32) (x_way : Nat → Int32) (E33 : Int32 → Prop) : Nat → Int32 → Int32 → Prop
  | 0, _, _ => False
  | n + 1, v1, v2 =>
    vp_in (nI 30) 732 ∧
    ((x_slot (nI 30).toNatClampNeg) < v2 →
      E33 v1) ∧
    (¬ (x_slot (nI 30).toNatClampNeg) < v2 →
      wp_X10_backFrom x_rules x_places x_without x_ways x_rule x_takes x_behind x_slot x_way v2 (fun r_3 =>
      wp_X10_larger v1 (v2 - r_3) (fun r_4 =>
      ∀ v2_5 : Int32, v2_5 = v2 + (nI 1) →
      lp_X10_farthest_4 x_rules x_places x_without x_ways x_rule x_takes x_behind x_slot x_way E33 n r_4 v2_5)))
def wp_X10_farthest (x_rules : Int32) (x_places : Int32) (x_without : Int32) (x_ways : Int32) (x_rule : Nat → Int32) (x_takes : Nat → Int32) (x_behind : Nat → Int32) (x_slot : Nat → Int32) (x_way : Nat → Int32) (K : Int32 → Prop) : Prop :=
    ∀ E33_2 : Int32 → Prop,
    (∀ (v1_1 : Int32), 
      (K v1_1) →
     E33_2 v1_1) →
    ∃ n : Nat, lp_X10_farthest_4 x_rules x_places x_without x_ways x_rule x_takes x_behind x_slot x_way E33_2 n (nI 0) (nI 0)

def wp_X10_machine (x_rules : Int32) (x_places : Int32) (x_without : Int32) (x_ways : Int32) (x_rule : Nat → Int32) (x_takes : Nat → Int32) (x_behind : Nat → Int32) (x_slot : Nat → Int32) (x_way : Nat → Int32) (x_at : Nat → Int32) (x_alike : Nat → Int32) (x_finer : Nat → Int32) (x_on : Nat → Int32) (p1 : Int32) (K : Int32 → Int32 → (Nat → Int32) → (Nat → Int32) → (Nat → Int32) → (Nat → Int32) → (Nat → Int32) → Prop) : Prop :=
    wp_X10_in p1.toInt64 (lN 0) (lN 4) (fun r_1 =>
    (¬ r_1 = 0 →
      wp_X10_allWays x_rules x_places x_without x_ways x_rule x_takes x_behind x_slot x_way x_at x_on (fun x_ways_2 x_way_3 x_at_4 x_on_5 =>
      (¬ p1 = 0 →
        (¬ p1 = (nI 1) →
          (¬ p1 = (nI 2) →
            (¬ p1 = (nI 3) →
              wp_X10_farthest x_rules x_places x_without x_ways_2 x_rule x_takes x_behind x_slot x_way_3 (fun r_6 =>
              K r_6 x_ways_2 x_way_3 x_at_4 x_alike x_finer x_on_5)) ∧
            (p1 = (nI 3) →
              wp_X10_fours x_slot (fun r_7 =>
              K r_7 x_ways_2 x_way_3 x_at_4 x_alike x_finer x_on_5))) ∧
          (p1 = (nI 2) →
            wp_X10_knownPairs x_rules x_places x_without x_ways_2 x_rule x_takes x_behind x_slot x_way_3 (fun r_8 =>
            K r_8 x_ways_2 x_way_3 x_at_4 x_alike x_finer x_on_5))) ∧
        (p1 = (nI 1) →
          wp_X10_unlikeWays x_ways_2 x_alike x_finer x_on_5 (fun r_11 x_alike_9 x_finer_10 =>
          K r_11 x_ways_2 x_way_3 x_at_4 x_alike_9 x_finer_10 x_on_5))) ∧
      (p1 = 0 →
        K x_ways_2 x_ways_2 x_way_3 x_at_4 x_alike x_finer x_on_5))) ∧
    (r_1 = 0 →
      K (-1) x_ways x_way x_at x_alike x_finer x_on))

def lp_X10_alike_52 (x_rules : Int32) (x_places : Int32) (x_ways : Int32) (x_rule : Nat → Int32) (x_takes : Nat → Int32) (x_behind : Nat → Int32) (x_slot : Nat → Int32) (x_way : Nat → Int32) (q1 : Int32) (q2 : Int32) (E104 : Int32 → Prop) : Nat → Int32 → Int32 → Prop
  | 0, _, _ => False
  | n + 1, v3, v4 =>
    (x_ways ≤ v4 →
      E104 v3) ∧
    (¬ x_ways ≤ v4 →
      (v3 = 0 →
        E104 v3) ∧
      (¬ v3 = 0 →
        vp_in v4 1024 ∧
        wp_X10_goes x_rules x_places x_rule x_takes x_behind x_slot (x_way v4.toNatClampNeg) q1 (fun r_13 =>
        vp_in v4 1024 ∧
        wp_X10_goes x_rules x_places x_rule x_takes x_behind x_slot (x_way v4.toNatClampNeg) q2 (fun r_14 =>
        (¬ r_13 = r_14 →
          ∀ v4_15 : Int32, v4_15 = v4 + (nI 1) →
          lp_X10_alike_52 x_rules x_places x_ways x_rule x_takes x_behind x_slot x_way q1 q2 E104 n (nI 0) v4_15) ∧
        (r_13 = r_14 →
          ∀ v4_16 : Int32, v4_16 = v4 + (nI 1) →
          lp_X10_alike_52 x_rules x_places x_ways x_rule x_takes x_behind x_slot x_way q1 q2 E104 n (nI 1) v4_16)))))
def wp_X10_alike (x_rules : Int32) (x_places : Int32) (x_without : Int32) (x_ways : Int32) (x_rule : Nat → Int32) (x_takes : Nat → Int32) (x_behind : Nat → Int32) (x_slot : Nat → Int32) (x_way : Nat → Int32) (x_at : Nat → Int32) (x_on : Nat → Int32) (p1 : Int32) (p2 : Int32) (K : Int32 → Int32 → (Nat → Int32) → (Nat → Int32) → (Nat → Int32) → Prop) : Prop :=
    wp_X10_in p1.toInt64 (lN 0) (lN 5) (fun r_1 =>
    (r_1 = 0 →
      K (-1) x_ways x_way x_at x_on) ∧
    (¬ r_1 = 0 →
      wp_X10_in p2.toInt64 (lN 0) (lN 5) (fun r_2 =>
      (¬ r_2 = 0 →
        wp_X10_allWays x_rules x_places x_without x_ways x_rule x_takes x_behind x_slot x_way x_at x_on (fun x_ways_3 x_way_4 x_at_5 x_on_6 =>
        wp_X10_begun x_rules x_places x_without x_rule x_takes p1 (fun r_7 =>
        wp_X10_begun x_rules x_places x_without x_rule x_takes p2 (fun r_8 =>
        ∀ J48_10 : Int32 → Prop,
        (∀ (s0_9 : Int32), 
          (∀ E104_12 : Int32 → Prop,
          (∀ (v3_11 : Int32), 
            ((v3_11 = 0 →
              K (nI 0) x_ways_3 x_way_4 x_at_5 x_on_6) ∧
            (¬ v3_11 = 0 →
              K (nI 1) x_ways_3 x_way_4 x_at_5 x_on_6)) →
           E104_12 v3_11) →
          ∃ n : Nat, lp_X10_alike_52 x_rules x_places x_ways_3 x_rule x_takes x_behind x_slot x_way_4 p1 p2 E104_12 n s0_9 (nI 0)) →
         J48_10 s0_9) →
        (¬ r_7 = r_8 →
            J48_10 (nI 0)) ∧
          (r_7 = r_8 →
            J48_10 (nI 1)))))) ∧
      (r_2 = 0 →
        K (-1) x_ways x_way x_at x_on))))

def wp_X10_known_ (x_rules : Int32) (x_places : Int32) (x_without : Int32) (x_ways : Int32) (x_rule : Nat → Int32) (x_takes : Nat → Int32) (x_behind : Nat → Int32) (x_slot : Nat → Int32) (x_way : Nat → Int32) (x_at : Nat → Int32) (x_on : Nat → Int32) (p1 : Int32) (p2 : Int32) (K : Int32 → Int32 → (Nat → Int32) → (Nat → Int32) → (Nat → Int32) → Prop) : Prop :=
    wp_X10_in p1.toInt64 (lN 0) (lN 5) (fun r_1 =>
    (r_1 = 0 →
      K (-1) x_ways x_way x_at x_on) ∧
    (¬ r_1 = 0 →
      wp_X10_in p2.toInt64 (lN 0) (lN 5) (fun r_2 =>
      (¬ r_2 = 0 →
        wp_X10_allWays x_rules x_places x_without x_ways x_rule x_takes x_behind x_slot x_way x_at x_on (fun x_ways_3 x_way_4 x_at_5 x_on_6 =>
        wp_X10_isKnown x_rules x_places x_without x_ways_3 x_rule x_takes x_behind x_slot x_way_4 p1 p2 (fun r_7 =>
        (r_7 = 0 →
          K (nI 0) x_ways_3 x_way_4 x_at_5 x_on_6) ∧
        (¬ r_7 = 0 →
          K (nI 1) x_ways_3 x_way_4 x_at_5 x_on_6)))) ∧
      (r_2 = 0 →
        K (-1) x_ways x_way x_at x_on))))

def wp_X10_back (x_rules : Int32) (x_places : Int32) (x_without : Int32) (x_ways : Int32) (x_rule : Nat → Int32) (x_takes : Nat → Int32) (x_behind : Nat → Int32) (x_slot : Nat → Int32) (x_way : Nat → Int32) (x_at : Nat → Int32) (x_on : Nat → Int32) (p1 : Int32) (p2 : Int32) (K : Int32 → Int32 → (Nat → Int32) → (Nat → Int32) → (Nat → Int32) → Prop) : Prop :=
    wp_X10_isPlace x_slot p1 (fun r_1 =>
    (r_1 = 0 →
      K (-1) x_ways x_way x_at x_on) ∧
    (¬ r_1 = 0 →
      wp_X10_in p2.toInt64 (lN 0) (lN 1) (fun r_2 =>
      (¬ r_2 = 0 →
        wp_X10_allWays x_rules x_places x_without x_ways x_rule x_takes x_behind x_slot x_way x_at x_on (fun x_ways_3 x_way_4 x_at_5 x_on_6 =>
        wp_X10_backFrom x_rules x_places x_without x_ways_3 x_rule x_takes x_behind x_slot x_way_4 p1 (fun r_7 =>
        (¬ p2 = 0 →
          K (p1 - r_7) x_ways_3 x_way_4 x_at_5 x_on_6) ∧
        (p2 = 0 →
          K r_7 x_ways_3 x_way_4 x_at_5 x_on_6)))) ∧
      (r_2 = 0 →
        K (-1) x_ways x_way x_at x_on))))

def lp_X10_idle_73 (x_slot : Nat → Int32) (x_parted : Nat → Int32) (x_other : Nat → Int32) (E127 : Int32 → Prop) : Nat → Int32 → Int32 → Prop
  | 0, _, _ => False
  | n + 1, v3, v4 =>
    vp_in (nI 30) 732 ∧
    ((x_slot (nI 30).toNatClampNeg) < v4 →
      E127 v3) ∧
    (¬ (x_slot (nI 30).toNatClampNeg) < v4 →
      (v3 = 0 →
        ∀ v4_19 : Int32, v4_19 = v4 + (nI 1) →
        lp_X10_idle_73 x_slot x_parted x_other E127 n (nI 0) v4_19) ∧
      (¬ v3 = 0 →
        vp_in v4 31 ∧
        vp_in v4 31 ∧
        ∀ J112_21 : Int32 → Prop,
        (∀ (s1_20 : Int32), 
          ((¬ (x_parted v4.toNatClampNeg) = s1_20 →
            ∀ v4_22 : Int32, v4_22 = v4 + (nI 1) →
            lp_X10_idle_73 x_slot x_parted x_other E127 n (nI 0) v4_22) ∧
          ((x_parted v4.toNatClampNeg) = s1_20 →
            ∀ v4_23 : Int32, v4_23 = v4 + (nI 1) →
            lp_X10_idle_73 x_slot x_parted x_other E127 n (nI 1) v4_23)) →
         J112_21 s1_20) →
        (¬ (x_other v4.toNatClampNeg) = (nI 1) →
            J112_21 (nI 0)) ∧
          ((x_other v4.toNatClampNeg) = (nI 1) →
            J112_21 (nI 1))))
def lp_X10_idle_48 (x_rules : Int32) (x_places : Int32) (x_rule : Nat → Int32) (x_takes : Nat → Int32) (x_behind : Nat → Int32) (x_slot : Nat → Int32) (x_other : Nat → Int32) (E147 : Int32 → Int32 → (Nat → Int32) → (Nat → Int32) → Prop) : Nat → Int32 → Int32 → Int32 → (Nat → Int32) → (Nat → Int32) → Prop
  | 0, _, _, _, _, _ => False
  | n + 1, v1, v2, x_without, x_stood, x_parted =>
    (x_rules ≤ v2 →
      E147 v1 x_without x_stood x_parted) ∧
    (¬ x_rules ≤ v2 →
      ∀ x_without_10 : Int32, x_without_10 = (nI 1) <<< (v2 &&& 31) →
      wp_X10_walks x_rules x_places x_without_10 x_rule x_takes x_behind x_slot x_stood x_parted (nI 0) (fun x_stood_11 x_parted_12 =>
      ∀ E127_14 : Int32 → Prop,
      (∀ (v3_13 : Int32), 
        ((v3_13 = 0 →
          ∀ v1_15 : Int32, v1_15 = v1 ||| (nI 0) →
          ∀ v2_16 : Int32, v2_16 = v2 + (nI 1) →
          lp_X10_idle_48 x_rules x_places x_rule x_takes x_behind x_slot x_other E147 n v1_15 v2_16 x_without_10 x_stood_11 x_parted_12) ∧
        (¬ v3_13 = 0 →
          ∀ v1_17 : Int32, v1_17 = v1 ||| ((nI 1) <<< (v2 &&& 31)) →
          ∀ v2_18 : Int32, v2_18 = v2 + (nI 1) →
          lp_X10_idle_48 x_rules x_places x_rule x_takes x_behind x_slot x_other E147 n v1_17 v2_18 x_without_10 x_stood_11 x_parted_12)) →
       E127_14 v3_13) →
      ∃ n : Nat, lp_X10_idle_73 x_slot x_parted_12 x_other E127_14 n (nI 1) (nI 0)))
def lp_X10_idle_7 (x_slot : Nat → Int32) (x_parted : Nat → Int32) (E44 : (Nat → Int32) → Prop) : Nat → Int32 → (Nat → Int32) → Prop
  | 0, _, _ => False
  | n + 1, v1, x_other =>
    vp_in (nI 30) 732 ∧
    ((x_slot (nI 30).toNatClampNeg) < v1 →
      E44 x_other) ∧
    (¬ (x_slot (nI 30).toNatClampNeg) < v1 →
      vp_in v1 31 ∧
      ((x_parted v1.toNatClampNeg) = 0 →
        vp_in v1 31 ∧
        ∀ x_other_52 : Nat → Int32, x_other_52 = upd x_other v1.toNatClampNeg (nI 0) →
        ∀ v1_53 : Int32, v1_53 = v1 + (nI 1) →
        lp_X10_idle_7 x_slot x_parted E44 n v1_53 x_other_52) ∧
      (¬ (x_parted v1.toNatClampNeg) = 0 →
        vp_in v1 31 ∧
        ∀ x_other_54 : Nat → Int32, x_other_54 = upd x_other v1.toNatClampNeg (nI 1) →
        ∀ v1_55 : Int32, v1_55 = v1 + (nI 1) →
        lp_X10_idle_7 x_slot x_parted E44 n v1_55 x_other_54))
def wp_X10_idle (x_rules : Int32) (x_places : Int32) (x_without : Int32) (x_rule : Nat → Int32) (x_takes : Nat → Int32) (x_behind : Nat → Int32) (x_slot : Nat → Int32) (x_stood : Nat → Int32) (x_parted : Nat → Int32) (x_other : Nat → Int32) (K : Int32 → Int32 → (Nat → Int32) → (Nat → Int32) → (Nat → Int32) → Prop) : Prop :=
    wp_X10_walks x_rules x_places x_without x_rule x_takes x_behind x_slot x_stood x_parted (nI 0) (fun x_stood_1 x_parted_2 =>
    ∀ E44_4 : (Nat → Int32) → Prop,
    (∀ (x_other_3 : Nat → Int32), 
      (∀ E147_9 : Int32 → Int32 → (Nat → Int32) → (Nat → Int32) → Prop,
      (∀ (v1_5 : Int32) (x_without_6 : Int32) (x_stood_7 : Nat → Int32) (x_parted_8 : Nat → Int32), 
        (K v1_5 (nI 0) x_stood_7 x_parted_8 x_other_3) →
       E147_9 v1_5 x_without_6 x_stood_7 x_parted_8) →
      ∃ n : Nat, lp_X10_idle_48 x_rules x_places x_rule x_takes x_behind x_slot x_other_3 E147_9 n (nI 0) (nI 0) x_without x_stood_1 x_parted_2) →
     E44_4 x_other_3) →
    ∃ n : Nat, lp_X10_idle_7 x_slot x_parted_2 E44_4 n (nI 0) x_other)

def lp_X10_least_152 (x_rules : Int32) (x_places : Int32) (x_rule : Nat → Int32) (x_takes : Nat → Int32) (x_behind : Nat → Int32) (x_slot : Nat → Int32) (q2 : Int32) (q4 : Int32) (E221 : (Nat → Int32) → Prop) : Nat → Int32 → (Nat → Int32) → Prop
  | 0, _, _ => False
  | n + 1, v5, x_finer =>
    ((nI 6) ≤ v5 →
      E221 x_finer) ∧
    (¬ (nI 6) ≤ v5 →
      vp_in q4 1024 ∧
      (¬ (x_finer q4.toNatClampNeg) = q2 →
        E221 x_finer) ∧
      ((x_finer q4.toNatClampNeg) = q2 →
        wp_X10_goes x_rules x_places x_rule x_takes x_behind x_slot q4 v5 (fun r_20 =>
        (r_20 = 0 →
          vp_in r_20 1024 ∧
          ∀ t_21 : Int32, t_21 = x_finer r_20.toNatClampNeg →
          vp_in r_20 1024 ∧
          ∀ x_finer_22 : Nat → Int32, x_finer_22 = upd x_finer r_20.toNatClampNeg t_21 →
          ∀ v5_23 : Int32, v5_23 = v5 + (nI 1) →
          lp_X10_least_152 x_rules x_places x_rule x_takes x_behind x_slot q2 q4 E221 n v5_23 x_finer_22) ∧
        (¬ r_20 = 0 →
          vp_in r_20 1024 ∧
          (¬ (x_finer r_20.toNatClampNeg) = 0 →
            vp_in r_20 1024 ∧
            ∀ t_24 : Int32, t_24 = x_finer r_20.toNatClampNeg →
            vp_in r_20 1024 ∧
            ∀ x_finer_25 : Nat → Int32, x_finer_25 = upd x_finer r_20.toNatClampNeg t_24 →
            ∀ v5_26 : Int32, v5_26 = v5 + (nI 1) →
            lp_X10_least_152 x_rules x_places x_rule x_takes x_behind x_slot q2 q4 E221 n v5_26 x_finer_25) ∧
          ((x_finer r_20.toNatClampNeg) = 0 →
            ∀ t_27 : Int32, t_27 = q2 + (nI 1) →
            vp_in r_20 1024 ∧
            ∀ x_finer_28 : Nat → Int32, x_finer_28 = upd x_finer r_20.toNatClampNeg t_27 →
            ∀ v5_29 : Int32, v5_29 = v5 + (nI 1) →
            lp_X10_least_152 x_rules x_places x_rule x_takes x_behind x_slot q2 q4 E221 n v5_29 x_finer_28)))))
def lp_X10_least_138 (x_rules : Int32) (x_places : Int32) (x_rule : Nat → Int32) (x_takes : Nat → Int32) (x_behind : Nat → Int32) (x_slot : Nat → Int32) (q2 : Int32) (E227 : (Nat → Int32) → Prop) : Nat → Int32 → (Nat → Int32) → Prop
  | 0, _, _ => False
  | n + 1, v4, x_finer =>
    (((nI 1) <<< (x_places &&& 31)) ≤ v4 →
      E227 x_finer) ∧
    (¬ ((nI 1) <<< (x_places &&& 31)) ≤ v4 →
      ∀ E221_18 : (Nat → Int32) → Prop,
      (∀ (x_finer_17 : Nat → Int32), 
        (∀ v4_19 : Int32, v4_19 = v4 + (nI 1) →
        lp_X10_least_138 x_rules x_places x_rule x_takes x_behind x_slot q2 E227 n v4_19 x_finer_17) →
       E221_18 x_finer_17) →
      ∃ n : Nat, lp_X10_least_152 x_rules x_places x_rule x_takes x_behind x_slot q2 v4 E221_18 n (nI 0) x_finer)
def lp_X10_least_77 (x_places : Int32) (x_rule : Nat → Int32) (x_finer : Nat → Int32) (q1 : Int32) (q2 : Int32) (E129 : Int32 → Prop) : Nat → Int32 → Int32 → Prop
  | 0, _, _ => False
  | n + 1, v3, v4 =>
    (((nI 1) <<< (x_places &&& 31)) ≤ v4 →
      E129 v3) ∧
    (¬ ((nI 1) <<< (x_places &&& 31)) ≤ v4 →
      (¬ v3 = 0 →
        ∀ v4_59 : Int32, v4_59 = v4 + (nI 1) →
        lp_X10_least_77 x_places x_rule x_finer q1 q2 E129 n (nI 1) v4_59) ∧
      (v3 = 0 →
        vp_in v4 1024 ∧
        (¬ (x_finer v4.toNatClampNeg) = q2 →
          ∀ v4_60 : Int32, v4_60 = v4 + (nI 1) →
          lp_X10_least_77 x_places x_rule x_finer q1 q2 E129 n (nI 0) v4_60) ∧
        ((x_finer v4.toNatClampNeg) = q2 →
          vp_in ((nI 4) + q1) 12 ∧
          ((v4 &&& (x_rule ((nI 4) + q1).toNatClampNeg)) = 0 →
            ∀ v4_61 : Int32, v4_61 = v4 + (nI 1) →
            lp_X10_least_77 x_places x_rule x_finer q1 q2 E129 n (nI 0) v4_61) ∧
          (¬ (v4 &&& (x_rule ((nI 4) + q1).toNatClampNeg)) = 0 →
            ∀ v4_62 : Int32, v4_62 = v4 + (nI 1) →
            lp_X10_least_77 x_places x_rule x_finer q1 q2 E129 n (nI 1) v4_62))))
def lp_X10_least_66 (x_rules : Int32) (x_places : Int32) (x_rule : Nat → Int32) (x_takes : Nat → Int32) (x_behind : Nat → Int32) (x_slot : Nat → Int32) (q1 : Int32) (E133 : Int32 → (Nat → Int32) → Prop) (E233 : (Nat → Int32) → Prop) : Nat → Int32 → (Nat → Int32) → Prop
  | 0, _, _ => False
  | n + 1, v2, x_finer =>
    ((nI 9) ≤ v2 →
      E233 x_finer) ∧
    (¬ (nI 9) ≤ v2 →
      ∀ E129_13 : Int32 → Prop,
      (∀ (v3_12 : Int32), 
        ((v3_12 = 0 →
          ∀ E227_15 : (Nat → Int32) → Prop,
          (∀ (x_finer_14 : Nat → Int32), 
            (∀ v2_16 : Int32, v2_16 = v2 + (nI 1) →
            lp_X10_least_66 x_rules x_places x_rule x_takes x_behind x_slot q1 E133 E233 n v2_16 x_finer_14) →
           E227_15 x_finer_14) →
          ∃ n : Nat, lp_X10_least_138 x_rules x_places x_rule x_takes x_behind x_slot v2 E227_15 n (nI 1) x_finer) ∧
        (¬ v3_12 = 0 →
          E133 v2 x_finer)) →
       E129_13 v3_12) →
      ∃ n : Nat, lp_X10_least_77 x_places x_rule x_finer q1 v2 E129_13 n (nI 0) (nI 1))
def lp_X10_least_34 (x_rules : Int32) (x_places : Int32) (x_without : Int32) (x_rule : Nat → Int32) (x_takes : Nat → Int32) (E57 : (Nat → Int32) → Prop) : Nat → Int32 → (Nat → Int32) → Prop
  | 0, _, _ => False
  | n + 1, v2, x_finer =>
    ((nI 6) ≤ v2 →
      E57 x_finer) ∧
    (¬ (nI 6) ≤ v2 →
      wp_X10_begun x_rules x_places x_without x_rule x_takes v2 (fun r_99 =>
      vp_in r_99 1024 ∧
      ∀ x_finer_100 : Nat → Int32, x_finer_100 = upd x_finer r_99.toNatClampNeg (nI 1) →
      ∀ v2_101 : Int32, v2_101 = v2 + (nI 1) →
      lp_X10_least_34 x_rules x_places x_without x_rule x_takes E57 n v2_101 x_finer_100))
def lp_X10_least_12 (E32 : (Nat → Int32) → Prop) : Nat → Int32 → (Nat → Int32) → Prop
  | 0, _, _ => False
  | n + 1, v2, x_finer =>
    ((nI 1024) ≤ v2 →
      E32 x_finer) ∧
    (¬ (nI 1024) ≤ v2 →
      vp_in v2 1024 ∧
      ∀ x_finer_107 : Nat → Int32, x_finer_107 = upd x_finer v2.toNatClampNeg (nI 0) →
      ∀ v2_108 : Int32, v2_108 = v2 + (nI 1) →
      lp_X10_least_12 E32 n v2_108 x_finer_107)
def wp_X10_least (x_rules : Int32) (x_places : Int32) (x_without : Int32) (x_rule : Nat → Int32) (x_takes : Nat → Int32) (x_behind : Nat → Int32) (x_slot : Nat → Int32) (x_finer : Nat → Int32) (p1 : Int32) (K : Int32 → (Nat → Int32) → Prop) : Prop :=
    wp_X10_isRule x_rules p1 (fun r_1 =>
    (¬ r_1 = 0 →
      ∀ E32_3 : (Nat → Int32) → Prop,
      (∀ (x_finer_2 : Nat → Int32), 
        (∀ E57_5 : (Nat → Int32) → Prop,
        (∀ (x_finer_4 : Nat → Int32), 
          (vp_in (nI 0) 1024 ∧
          ∀ x_finer_6 : Nat → Int32, x_finer_6 = upd x_finer_4 (nI 0).toNatClampNeg (nI 0) →
          ∀ E133_9 : Int32 → (Nat → Int32) → Prop,
          (∀ (v2_7 : Int32) (x_finer_8 : Nat → Int32), 
            (K v2_7 x_finer_8) →
           E133_9 v2_7 x_finer_8) →
          ∀ E233_11 : (Nat → Int32) → Prop,
            (∀ (x_finer_10 : Nat → Int32), 
              (K (-4) x_finer_10) →
             E233_11 x_finer_10) →
            ∃ n : Nat, lp_X10_least_66 x_rules x_places x_rule x_takes x_behind x_slot p1 E133_9 E233_11 n (nI 1) x_finer_6) →
         E57_5 x_finer_4) →
        ∃ n : Nat, lp_X10_least_34 x_rules x_places x_without x_rule x_takes E57_5 n (nI 0) x_finer_2) →
       E32_3 x_finer_2) →
      ∃ n : Nat, lp_X10_least_12 E32_3 n (nI 0) x_finer) ∧
    (r_1 = 0 →
      K (-1) x_finer))

def lp_X10_day_227 (x_slot : Nat → Int32) (x_parted : Nat → Int32) (E275 : Int32 → Prop) : Nat → Int32 → Int32 → Int32 → Prop
  | 0, _, _, _ => False
  | n + 1, v4, v5, v6 =>
    vp_in (nI 701) 732 ∧
    ((x_slot (nI 701).toNatClampNeg) ≤ v6 →
      E275 v4) ∧
    (¬ (x_slot (nI 701).toNatClampNeg) ≤ v6 →
      vp_in v6 31 ∧
      ∀ J258_13 : Int32 → Prop,
      (∀ (s0_12 : Int32), 
        (wp_X10_larger v4 s0_12 (fun r_14 =>
        ∀ v6_15 : Int32, v6_15 = v6 + (nI 1) →
        lp_X10_day_227 x_slot x_parted E275 n r_14 s0_12 v6_15)) →
       J258_13 s0_12) →
      ((x_parted v6.toNatClampNeg) = 0 →
          J258_13 (v5 + (nI 1))) ∧
        (¬ (x_parted v6.toNatClampNeg) = 0 →
          J258_13 (nI 1)))
def lp_X10_day_49 (q1 : Int32) (q2 : Int32) (E211 : (Nat → Int32) → Prop) : Nat → Int32 → (Nat → Int32) → Prop
  | 0, _, _ => False
  | n + 1, v4, x_slot =>
    (q2 ≤ v4 →
      E211 x_slot) ∧
    (¬ q2 ≤ v4 →
      ∀ v5_23 : Int64, v5_23 = (((lN 7919) * q1.toInt64) + ((lN 6151) * v4.toInt64)) + (lN 1) →
      ∀ v7_24 : Int32, v7_24 = ((v5_23 * v5_23) - (v5_23 * v5_23) / (lN 65521) * (lN 65521)).toInt32 →
      ∀ v8_25 : Int32, v8_25 = v7_24 - v7_24 / (nI 4) * (nI 4) →
      vp_in (nI 701) 732 ∧
      ∀ v9_26 : Int32, v9_26 = x_slot (nI 701).toNatClampNeg →
      ∀ J143_27 : Prop,
      (
        (∀ J173_28 : Prop,
        (
          ((¬ v8_25 = (nI 3) →
            ∀ v4_29 : Int32, v4_29 = v4 + (nI 1) →
            lp_X10_day_49 q1 q2 E211 n v4_29 x_slot) ∧
          (v8_25 = (nI 3) →
            ∀ t_30 : Int32, t_30 = (v7_24 / (nI 256)) - (v7_24 / (nI 256)) / (nI 6) * (nI 6) →
            vp_in ((nI 671) + ((v7_24 / (nI 8)) - (v7_24 / (nI 8)) / (nI 26) * (nI 26))) 732 ∧
            ∀ x_slot_31 : Nat → Int32, x_slot_31 = upd x_slot ((nI 671) + ((v7_24 / (nI 8)) - (v7_24 / (nI 8)) / (nI 26) * (nI 26))).toNatClampNeg t_30 →
            ∀ v4_32 : Int32, v4_32 = v4 + (nI 1) →
            lp_X10_day_49 q1 q2 E211 n v4_32 x_slot_31)) →
         J173_28) →
        (¬ v8_25 = (nI 2) →
            J173_28) ∧
          (v8_25 = (nI 2) →
            (v9_26 ≤ 0 →
              J173_28) ∧
            (¬ v9_26 ≤ 0 →
              ¬ v9_26 = 0 ∧
              wp_X10_takesOut x_slot (nI 671) ((v7_24 / (nI 256)) - (v7_24 / (nI 256)) / v9_26 * v9_26) (fun x_slot_33 =>
              ∀ v4_34 : Int32, v4_34 = v4 + (nI 1) →
              lp_X10_day_49 q1 q2 E211 n v4_34 x_slot_33)))) →
       J143_27) →
      ((nI 2) ≤ v8_25 →
          J143_27) ∧
        (¬ (nI 2) ≤ v8_25 →
          ((nI 30) ≤ v9_26 →
            J143_27) ∧
          (¬ (nI 30) ≤ v9_26 →
            ¬ (v9_26 + (nI 1)) = 0 ∧
            wp_X10_puts x_slot (nI 671) ((v7_24 / (nI 256)) - (v7_24 / (nI 256)) / (v9_26 + (nI 1)) * (v9_26 + (nI 1))) ((v7_24 / (nI 8)) - (v7_24 / (nI 8)) / (nI 26) * (nI 26)) (fun x_slot_35 =>
            ∀ v4_36 : Int32, v4_36 = v4 + (nI 1) →
            lp_X10_day_49 q1 q2 E211 n v4_36 x_slot_35))))
def wp_X10_day (x_rules : Int32) (x_places : Int32) (x_without : Int32) (x_rule : Nat → Int32) (x_takes : Nat → Int32) (x_behind : Nat → Int32) (x_slot : Nat → Int32) (x_stood : Nat → Int32) (x_parted : Nat → Int32) (p1 : Int32) (p2 : Int32) (p3 : Int32) (K : Int32 → (Nat → Int32) → (Nat → Int32) → (Nat → Int32) → Prop) : Prop :=
    wp_X10_in p1.toInt64 (lN 0) (lN 9999) (fun r_1 =>
    (r_1 = 0 →
      K (-1) x_slot x_stood x_parted) ∧
    (¬ r_1 = 0 →
      wp_X10_in p2.toInt64 (lN 1) (lN 40) (fun r_2 =>
      (r_2 = 0 →
        K (-1) x_slot x_stood x_parted) ∧
      (¬ r_2 = 0 →
        wp_X10_in p3.toInt64 (lN 0) (lN 2) (fun r_3 =>
        (¬ r_3 = 0 →
          wp_X10_copies x_slot (nI 0) (nI 671) (fun x_slot_4 =>
          ∀ E211_6 : (Nat → Int32) → Prop,
          (∀ (x_slot_5 : Nat → Int32), 
            (wp_X10_walks x_rules x_places x_without x_rule x_takes x_behind x_slot_5 x_stood x_parted (nI 671) (fun x_stood_7 x_parted_8 =>
            ∀ E275_10 : Int32 → Prop,
            (∀ (v4_9 : Int32), 
              ((¬ p3 = 0 →
                (¬ p3 = (nI 1) →
                  K v4_9 x_slot_5 x_stood_7 x_parted_8) ∧
                (p3 = (nI 1) →
                  wp_X10_pieces x_slot_5 x_parted_8 (nI 671) (fun r_11 =>
                  K r_11 x_slot_5 x_stood_7 x_parted_8))) ∧
              (p3 = 0 →
                vp_in (nI 701) 732 ∧
                K (x_slot_5 (nI 701).toNatClampNeg) x_slot_5 x_stood_7 x_parted_8)) →
             E275_10 v4_9) →
            ∃ n : Nat, lp_X10_day_227 x_slot_5 x_parted_8 E275_10 n (nI 0) (nI 0) (nI 0))) →
           E211_6 x_slot_5) →
          ∃ n : Nat, lp_X10_day_49 p1 p2 E211_6 n (nI 0) x_slot_4)) ∧
        (r_3 = 0 →
          K (-1) x_slot x_stood x_parted))))))

def wp_X10_keep (x_kept : Int32) (x_slot : Nat → Int32) (K : Int32 → Int32 → (Nat → Int32) → Prop) : Prop :=
    (¬ x_kept = (nI 2) →
      wp_X10_copies x_slot (nI 0) ((nI 549) + (x_kept * (nI 61))) (fun x_slot_1 =>
      ∀ x_kept_2 : Int32, x_kept_2 = x_kept + (nI 1) →
      K x_kept_2 x_kept_2 x_slot_1)) ∧
    (x_kept = (nI 2) →
      K (-3) x_kept x_slot)

def wp_X10_restore (x_acts : Int32) (x_kept : Int32) (x_slot : Nat → Int32) (K : Int32 → Int32 → Int32 → (Nat → Int32) → Prop) : Prop :=
    (¬ x_kept = 0 →
      ∀ x_kept_1 : Int32, x_kept_1 = x_kept - (nI 1) →
      wp_X10_copies x_slot ((nI 549) + (x_kept_1 * (nI 61))) (nI 0) (fun x_slot_2 =>
      K x_kept_1 (nI 0) x_kept_1 x_slot_2)) ∧
    (x_kept = 0 →
      K (-2) x_acts x_kept x_slot)

def wp_X10_count (x_rules : Int32) (x_places : Int32) (x_acts : Int32) (x_kept : Int32) (x_length : Int32) (x_without : Int32) (x_rule : Nat → Int32) (x_takes : Nat → Int32) (x_behind : Nat → Int32) (x_slot : Nat → Int32) (x_stood : Nat → Int32) (x_parted : Nat → Int32) (p1 : Int32) (K : Int32 → (Nat → Int32) → (Nat → Int32) → Prop) : Prop :=
    wp_X10_in p1.toInt64 (lN 0) (lN 6) (fun r_1 =>
    (¬ r_1 = 0 →
      wp_X10_walks x_rules x_places x_without x_rule x_takes x_behind x_slot x_stood x_parted (nI 0) (fun x_stood_2 x_parted_3 =>
      (¬ p1 = 0 →
        (¬ p1 = (nI 1) →
          (¬ p1 = (nI 2) →
            (¬ p1 = (nI 3) →
              (¬ p1 = (nI 4) →
                (¬ p1 = (nI 5) →
                  K x_length x_stood_2 x_parted_3) ∧
                (p1 = (nI 5) →
                  K x_kept x_stood_2 x_parted_3)) ∧
              (p1 = (nI 4) →
                K x_acts x_stood_2 x_parted_3)) ∧
            (p1 = (nI 3) →
              wp_X10_pieces x_slot x_parted_3 (nI 0) (fun r_4 =>
              K r_4 x_stood_2 x_parted_3))) ∧
          (p1 = (nI 2) →
            vp_in (nI 30) 732 ∧
            K (x_slot (nI 30).toNatClampNeg) x_stood_2 x_parted_3)) ∧
        (p1 = (nI 1) →
          K x_places x_stood_2 x_parted_3)) ∧
      (p1 = 0 →
        K x_rules x_stood_2 x_parted_3))) ∧
    (r_1 = 0 →
      K (-1) x_stood x_parted))
