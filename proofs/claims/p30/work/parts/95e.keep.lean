/-- the text, as both sides hold it -/
def xT (m : Nat) (t : Nat → Nat) (tl : Int32) (signs : zF) : Prop := tl = nI m ∧ ∀ i, i < m → signs i = nI (t i)
def mT (m : Nat) (t : Nat → Nat) (len : Int32) (text : zF) : Prop := len = nI m ∧ ∀ i, i < m → text i = nI (t i)
def zT (m : Nat) (t : Nat → Nat) : Prop := m ≤ 200 ∧ ∀ i, i < m → 32 ≤ t i ∧ t i ≤ 126
theorem zk_byte1 : ∀ a, a < 8 → ∀ b, b < 16 → vp_nar .byte (nI (16 * a + b)).toInt8.toInt32 = nI (16 * a + b) := by decide
theorem zk_byte (j : Nat) (h : j < 127) : vp_nar .byte (nI j).toInt8.toInt32 = nI j := by
  have := zk_byte1 (j / 16) (by omega) (j % 16) (by omega)
  rw [show 16 * (j / 16) + j % 16 = j by omega] at this
  exact this
/-- what is kept -/
def mK (kn : Nat) (kp : Nat → zD) (s : zF) : Prop := ∀ i, i < kn → mD s (549 + i * 61) (kp i)
def xK (kn : Nat) (kp : Nat → zD) (ll : Int32) (lc lk lf : zF) (ul : Int32) (uc uk uf : zF) : Prop := (0 < kn → xD (kp 0) ll lc lk lf) ∧ (1 < kn → xD (kp 1) ul uc uk uf)
theorem mK.frame {kn : Nat} {kp : Nat → zD} {s s' : zF} (h : mK kn kp s) (hE : ∀ i, i < kn → zE (kp i)) (hk : kn ≤ 2) (hs : ∀ j, 549 ≤ j → j < 671 → s' j = s j) : mK kn kp s' :=
  fun i hi => (h i hi).frame (hE i hi) (fun j h1 h2 => hs j (by omega) (by omega))
