/-! own part (pure): numbers and records -/
theorem rs_s (r : Rc) (k : Nat) (v : Ar) : rs r k v k = v := if_pos rfl
theorem rs_n (r : Rc) {k j : Nat} (v : Ar) (h : j ≠ k) : rs r k v j = r j := if_neg h
theorem rs_at (r : Rc) (k : Nat) (v : Ar) (j : Nat) : rs r k v j = if j = k then v else r j := rfl
theorem inb_nI {n N : Nat} (h : n < N) (hN : N < 2 ^ 31) : inb (nI n) N := vp_in_nI h hN
theorem zGd_t {β : Type} {c : Prop} [Decidable c] {k : Option β} (h : c) : zGd c k = k := if_pos h
theorem nIc {n : Nat} (h : n < 2 ^ 31) : (nI n).toNatClampNeg = n := nI_clamp h
theorem zLet_e {α β : Type} (x : α) (k : α → Option β) : zLet x k = k x := rfl
theorem zJn_e {α β : Type} (j : α) (k : α → Option β) : zJn j k = k j := rfl
theorem nIl (n : Nat) : (OfNat.ofNat n : Int32) = nI n := rfl
/-- letters, digits and signs: functions of a byte, decided one by one -/
def isLt (b : Nat) : Bool := decide (97 ≤ b ∧ b ≤ 122)
def isDg (b : Nat) : Bool := decide (48 ≤ b ∧ b ≤ 57)
def isSg (b : Nat) : Bool := b == 43 || b == 45 || b == 42 || b == 38 || b == 124 || b == 94 || b == 60
def isSi (b : Nat) : Bool := b == 123 || b == 125 || b == 59 || b == 61 || b == 40 || b == 41 || b == 126 || isSg b
def bI (c : Bool) : Int32 := if c then 1 else 0
def sgN (b : Nat) : Int32 := if b = 43 then 0 else if b = 45 then 1 else if b = 42 then 2 else if b = 38 then 3 else if b = 124 then 4 else if b = 94 then 5 else if b = 60 then 6 else -1
theorem byteAll {P : Nat → Prop} [DecidablePred P] (h : (List.range 256).all (fun i => decide (P i)) = true) {b : Nat} (hb : b < 256) : P b := of_decide_eq_true (List.all_eq_true.mp h b (List.mem_range.mpr hb))
theorem isLetter6 {b : Nat} (hb : b < 256) : fX6_isLetter (nI b) = some (bI (isLt b)) := byteAll (P := fun b => fX6_isLetter (nI b) = some (bI (isLt b))) (by decide +kernel) hb
theorem isDigit6 {b : Nat} (hb : b < 256) : fX6_isDigit (nI b) = some (bI (isDg b)) := byteAll (P := fun b => fX6_isDigit (nI b) = some (bI (isDg b))) (by decide +kernel) hb
theorem isSignByte6 {b : Nat} (hb : b < 256) : fX6_isSignByte (nI b) = some (bI (isSg b)) := byteAll (P := fun b => fX6_isSignByte (nI b) = some (bI (isSg b))) (by decide +kernel) hb
theorem isSingle6 {b : Nat} (hb : b < 256) : fX6_isSingle (nI b) = some (bI (isSi b)) := byteAll (P := fun b => fX6_isSingle (nI b) = some (bI (isSi b))) (by decide +kernel) hb
theorem isLetter10 {b : Nat} (hb : b < 256) : fX10_isLetter (nI b) = some (bI (isLt b)) := byteAll (P := fun b => fX10_isLetter (nI b) = some (bI (isLt b))) (by decide +kernel) hb
theorem isDigit10 {b : Nat} (hb : b < 256) : fX10_isDigit (nI b) = some (bI (isDg b)) := byteAll (P := fun b => fX10_isDigit (nI b) = some (bI (isDg b))) (by decide +kernel) hb
theorem signOf10 {b : Nat} (hb : b < 256) : fX10_signOf (nI b) = some (sgN b) := byteAll (P := fun b => fX10_signOf (nI b) = some (sgN b)) (by decide +kernel) hb
theorem isSign10 {b : Nat} (hb : b < 256) : fX10_isSign (nI b) = some (bI (isSi b)) := byteAll (P := fun b => fX10_isSign (nI b) = some (bI (isSi b))) (by decide +kernel) hb
