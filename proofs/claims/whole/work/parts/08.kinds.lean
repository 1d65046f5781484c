/-! the kinds of objects, each a block of cells -/
def oA (S : BqH) (n a len : Nat) : Prop := S a = (13, len) ∧ a < n
theorem oA_sh {S : BqH} {n a len : Nat} (h : oA S n a len) : S a = (13, len) := h.1
theorem oA_lt {S : BqH} {n a len : Nat} (h : oA S n a len) : a < n := h.2
def oZ (S : BqH) (n a len : Nat) : Prop := S a = (14, len) ∧ a < n
theorem oZ_sh {S : BqH} {n a len : Nat} (h : oZ S n a len) : S a = (14, len) := h.1
theorem oZ_lt {S : BqH} {n a len : Nat} (h : oZ S n a len) : a < n := h.2
def oBlend (S : BqH) (n : Nat) (P : BqP) (o : Nat) : Prop := S o = (0, 0) ∧ o + 1 < n ∧ P o 0 = some (o + 1) ∧ oA S n (o + 1) 16
theorem Blend_sh {S : BqH} {n : Nat} {P : BqP} {o : Nat} (h : oBlend S n P o) : S o = (0, 0) := h.1
theorem Blend_lt {S : BqH} {n : Nat} {P : BqP} {o : Nat} (h : oBlend S n P o) : o < n := by have := h.2.1; omega
theorem Blend_p_parts {S : BqH} {n : Nat} {P : BqP} {o : Nat} (h : oBlend S n P o) : P o 0 = some (o + 1) := h.2.2.1
theorem Blend_s_parts {S : BqH} {n : Nat} {P : BqP} {o : Nat} (h : oBlend S n P o) : oA S n (o + 1) 16 := h.2.2.2
def oCommand (S : BqH) (n : Nat) (P : BqP) (o : Nat) : Prop := S o = (1, 0) ∧ o < n
theorem Command_sh {S : BqH} {n : Nat} {P : BqP} {o : Nat} (h : oCommand S n P o) : S o = (1, 0) := h.1
theorem Command_lt {S : BqH} {n : Nat} {P : BqP} {o : Nat} (h : oCommand S n P o) : o < n := by have := h.2; omega
def oJournal (S : BqH) (n : Nat) (P : BqP) (o : Nat) : Prop := S o = (2, 0) ∧ o + 1 < n ∧ P o 1 = some (o + 1) ∧ oA S n (o + 1) 320
theorem Journal_sh {S : BqH} {n : Nat} {P : BqP} {o : Nat} (h : oJournal S n P o) : S o = (2, 0) := h.1
theorem Journal_lt {S : BqH} {n : Nat} {P : BqP} {o : Nat} (h : oJournal S n P o) : o < n := by have := h.2.1; omega
theorem Journal_p_parts {S : BqH} {n : Nat} {P : BqP} {o : Nat} (h : oJournal S n P o) : P o 1 = some (o + 1) := h.2.2.1
theorem Journal_s_parts {S : BqH} {n : Nat} {P : BqP} {o : Nat} (h : oJournal S n P o) : oA S n (o + 1) 320 := h.2.2.2
def oOrder (S : BqH) (n : Nat) (P : BqP) (o : Nat) : Prop := S o = (4, 0) ∧ o < n
theorem Order_sh {S : BqH} {n : Nat} {P : BqP} {o : Nat} (h : oOrder S n P o) : S o = (4, 0) := h.1
theorem Order_lt {S : BqH} {n : Nat} {P : BqP} {o : Nat} (h : oOrder S n P o) : o < n := by have := h.2; omega
def oPortion (S : BqH) (n : Nat) (P : BqP) (o : Nat) : Prop := S o = (6, 0) ∧ o + 3 < n ∧ P o 0 = some (o + 1) ∧ oBlend S n P (o + 1) ∧ P o 1 = some (o + 3) ∧ oA S n (o + 3) 16
theorem Portion_sh {S : BqH} {n : Nat} {P : BqP} {o : Nat} (h : oPortion S n P o) : S o = (6, 0) := h.1
theorem Portion_lt {S : BqH} {n : Nat} {P : BqP} {o : Nat} (h : oPortion S n P o) : o < n := by have := h.2.1; omega
theorem Portion_p_blend {S : BqH} {n : Nat} {P : BqP} {o : Nat} (h : oPortion S n P o) : P o 0 = some (o + 1) := h.2.2.1
theorem Portion_s_blend {S : BqH} {n : Nat} {P : BqP} {o : Nat} (h : oPortion S n P o) : oBlend S n P (o + 1) := h.2.2.2.1
theorem Portion_p_remainders {S : BqH} {n : Nat} {P : BqP} {o : Nat} (h : oPortion S n P o) : P o 1 = some (o + 3) := h.2.2.2.2.1
theorem Portion_s_remainders {S : BqH} {n : Nat} {P : BqP} {o : Nat} (h : oPortion S n P o) : oA S n (o + 3) 16 := h.2.2.2.2.2
def oRate (S : BqH) (n : Nat) (P : BqP) (o : Nat) : Prop := S o = (7, 0) ∧ o < n
theorem Rate_sh {S : BqH} {n : Nat} {P : BqP} {o : Nat} (h : oRate S n P o) : S o = (7, 0) := h.1
theorem Rate_lt {S : BqH} {n : Nat} {P : BqP} {o : Nat} (h : oRate S n P o) : o < n := by have := h.2; omega
def oTank (S : BqH) (n : Nat) (P : BqP) (o : Nat) : Prop := S o = (9, 0) ∧ o + 2 < n ∧ P o 3 = some (o + 1) ∧ oBlend S n P (o + 1)
theorem Tank_sh {S : BqH} {n : Nat} {P : BqP} {o : Nat} (h : oTank S n P o) : S o = (9, 0) := h.1
theorem Tank_lt {S : BqH} {n : Nat} {P : BqP} {o : Nat} (h : oTank S n P o) : o < n := by have := h.2.1; omega
theorem Tank_p_content {S : BqH} {n : Nat} {P : BqP} {o : Nat} (h : oTank S n P o) : P o 3 = some (o + 1) := h.2.2.1
theorem Tank_s_content {S : BqH} {n : Nat} {P : BqP} {o : Nat} (h : oTank S n P o) : oBlend S n P (o + 1) := h.2.2.2
def oMixer (S : BqH) (n : Nat) (P : BqP) (o : Nat) : Prop := S o = (3, 0) ∧ o + 4 < n ∧ P o 0 = some (o + 1) ∧ oPortion S n P (o + 1)
theorem Mixer_sh {S : BqH} {n : Nat} {P : BqP} {o : Nat} (h : oMixer S n P o) : S o = (3, 0) := h.1
theorem Mixer_lt {S : BqH} {n : Nat} {P : BqP} {o : Nat} (h : oMixer S n P o) : o < n := by have := h.2.1; omega
theorem Mixer_p_taken {S : BqH} {n : Nat} {P : BqP} {o : Nat} (h : oMixer S n P o) : P o 0 = some (o + 1) := h.2.2.1
theorem Mixer_s_taken {S : BqH} {n : Nat} {P : BqP} {o : Nat} (h : oMixer S n P o) : oPortion S n P (o + 1) := h.2.2.2
def oPlan (S : BqH) (n : Nat) (P : BqP) (o : Nat) : Prop := S o = (5, 0) ∧ o + 20 < n ∧ P o 1 = some (o + 1) ∧ oA S n (o + 1) 10 ∧ P o 2 = some (o + 2) ∧ oA S n (o + 2) 10 ∧ P o 4 = some (o + 3) ∧ oA S n (o + 3) 10 ∧ P o 5 = some (o + 4) ∧ S (o + 4) = (15, 6) ∧ (∀ i, i < 6 → P (o + 4) i = some (o + 9 + 2 * i) ∧ oBlend S n P (o + 9 + 2 * i)) ∧ P o 6 = some (o + 5) ∧ oPortion S n P (o + 5)
theorem Plan_sh {S : BqH} {n : Nat} {P : BqP} {o : Nat} (h : oPlan S n P o) : S o = (5, 0) := h.1
theorem Plan_lt {S : BqH} {n : Nat} {P : BqP} {o : Nat} (h : oPlan S n P o) : o < n := by have := h.2.1; omega
theorem Plan_p_orders {S : BqH} {n : Nat} {P : BqP} {o : Nat} (h : oPlan S n P o) : P o 1 = some (o + 1) := h.2.2.1
theorem Plan_s_orders {S : BqH} {n : Nat} {P : BqP} {o : Nat} (h : oPlan S n P o) : oA S n (o + 1) 10 := h.2.2.2.1
theorem Plan_p_tanks {S : BqH} {n : Nat} {P : BqP} {o : Nat} (h : oPlan S n P o) : P o 2 = some (o + 2) := h.2.2.2.2.1
theorem Plan_s_tanks {S : BqH} {n : Nat} {P : BqP} {o : Nat} (h : oPlan S n P o) : oA S n (o + 2) 10 := h.2.2.2.2.2.1
theorem Plan_p_queue {S : BqH} {n : Nat} {P : BqP} {o : Nat} (h : oPlan S n P o) : P o 4 = some (o + 3) := h.2.2.2.2.2.2.1
theorem Plan_s_queue {S : BqH} {n : Nat} {P : BqP} {o : Nat} (h : oPlan S n P o) : oA S n (o + 3) 10 := h.2.2.2.2.2.2.2.1
theorem Plan_p_left {S : BqH} {n : Nat} {P : BqP} {o : Nat} (h : oPlan S n P o) : P o 5 = some (o + 4) := h.2.2.2.2.2.2.2.2.1
theorem Planleft_sh {S : BqH} {n : Nat} {P : BqP} {o : Nat} (h : oPlan S n P o) : S (o + 4) = (15, 6) := h.2.2.2.2.2.2.2.2.2.1
theorem Planleft_a {S : BqH} {n : Nat} {P : BqP} {o : Nat} (h : oPlan S n P o) : ∀ i, i < 6 → P (o + 4) i = some (o + 9 + 2 * i) ∧ oBlend S n P (o + 9 + 2 * i) := h.2.2.2.2.2.2.2.2.2.2.1
theorem Plan_p_taken {S : BqH} {n : Nat} {P : BqP} {o : Nat} (h : oPlan S n P o) : P o 6 = some (o + 5) := h.2.2.2.2.2.2.2.2.2.2.2.1
theorem Plan_s_taken {S : BqH} {n : Nat} {P : BqP} {o : Nat} (h : oPlan S n P o) : oPortion S n P (o + 5) := h.2.2.2.2.2.2.2.2.2.2.2.2
theorem Planleft_lt {S : BqH} {n : Nat} {P : BqP} {o : Nat} (h : oPlan S n P o) : o + 4 < n := by have := h.2.1; omega
theorem Planleft_p_el {S : BqH} {n : Nat} {P : BqP} {o i : Nat} (h : oPlan S n P o) (hi : i < 6) : P (o + 4) i = some (o + 9 + 2 * i) := (Planleft_a h i hi).1
theorem Planleft_s_el {S : BqH} {n : Nat} {P : BqP} {o i : Nat} (h : oPlan S n P o) (hi : i < 6) : oBlend S n P (o + 9 + 2 * i) := (Planleft_a h i hi).2
def oTape (S : BqH) (n : Nat) (P : BqP) (o : Nat) : Prop := S o = (10, 0) ∧ o + 22 < n ∧ P o 1 = some (o + 1) ∧ oA S n (o + 1) 60 ∧ P o 5 = some (o + 2) ∧ S (o + 2) = (16, 20) ∧ (∀ i, i < 20 → P (o + 2) i = some (o + 3 + i) ∧ oCommand S n P (o + 3 + i))
theorem Tape_sh {S : BqH} {n : Nat} {P : BqP} {o : Nat} (h : oTape S n P o) : S o = (10, 0) := h.1
theorem Tape_lt {S : BqH} {n : Nat} {P : BqP} {o : Nat} (h : oTape S n P o) : o < n := by have := h.2.1; omega
theorem Tape_p_bytes {S : BqH} {n : Nat} {P : BqP} {o : Nat} (h : oTape S n P o) : P o 1 = some (o + 1) := h.2.2.1
theorem Tape_s_bytes {S : BqH} {n : Nat} {P : BqP} {o : Nat} (h : oTape S n P o) : oA S n (o + 1) 60 := h.2.2.2.1
theorem Tape_p_commands {S : BqH} {n : Nat} {P : BqP} {o : Nat} (h : oTape S n P o) : P o 5 = some (o + 2) := h.2.2.2.2.1
theorem Tapecommands_sh {S : BqH} {n : Nat} {P : BqP} {o : Nat} (h : oTape S n P o) : S (o + 2) = (16, 20) := h.2.2.2.2.2.1
theorem Tapecommands_a {S : BqH} {n : Nat} {P : BqP} {o : Nat} (h : oTape S n P o) : ∀ i, i < 20 → P (o + 2) i = some (o + 3 + i) ∧ oCommand S n P (o + 3 + i) := h.2.2.2.2.2.2
theorem Tapecommands_lt {S : BqH} {n : Nat} {P : BqP} {o : Nat} (h : oTape S n P o) : o + 2 < n := by have := h.2.1; omega
theorem Tapecommands_p_el {S : BqH} {n : Nat} {P : BqP} {o i : Nat} (h : oTape S n P o) (hi : i < 20) : P (o + 2) i = some (o + 3 + i) := (Tapecommands_a h i hi).1
theorem Tapecommands_s_el {S : BqH} {n : Nat} {P : BqP} {o i : Nat} (h : oTape S n P o) (hi : i < 20) : oCommand S n P (o + 3 + i) := (Tapecommands_a h i hi).2
def oState (S : BqH) (n : Nat) (P : BqP) (o : Nat) : Prop := S o = (8, 0) ∧ o + 52 < n ∧ P o 2 = some (o + 1) ∧ S (o + 1) = (20, 6) ∧ (∀ i, i < 6 → P (o + 1) i = some (o + 15 + 3 * i) ∧ oTank S n P (o + 15 + 3 * i)) ∧ P o 4 = some (o + 2) ∧ oA S n (o + 2) 16 ∧ P o 5 = some (o + 3) ∧ oA S n (o + 3) 16 ∧ P o 6 = some (o + 4) ∧ oBlend S n P (o + 4) ∧ P o 7 = some (o + 6) ∧ oBlend S n P (o + 6) ∧ P o 8 = some (o + 8) ∧ oBlend S n P (o + 8) ∧ P o 9 = some (o + 10) ∧ oA S n (o + 10) 4 ∧ P o 11 = some (o + 11) ∧ S (o + 11) = (18, 10) ∧ (∀ i, i < 10 → P (o + 11) i = some (o + 33 + i) ∧ oRate S n P (o + 33 + i)) ∧ P o 13 = some (o + 12) ∧ S (o + 12) = (17, 10) ∧ (∀ i, i < 10 → P (o + 12) i = some (o + 43 + i) ∧ oOrder S n P (o + 43 + i)) ∧ P o 16 = some (o + 13) ∧ oJournal S n P (o + 13)
theorem State_sh {S : BqH} {n : Nat} {P : BqP} {o : Nat} (h : oState S n P o) : S o = (8, 0) := h.1
theorem State_lt {S : BqH} {n : Nat} {P : BqP} {o : Nat} (h : oState S n P o) : o < n := by have := h.2.1; omega
theorem State_p_tanks {S : BqH} {n : Nat} {P : BqP} {o : Nat} (h : oState S n P o) : P o 2 = some (o + 1) := h.2.2.1
theorem Statetanks_sh {S : BqH} {n : Nat} {P : BqP} {o : Nat} (h : oState S n P o) : S (o + 1) = (20, 6) := h.2.2.2.1
theorem Statetanks_a {S : BqH} {n : Nat} {P : BqP} {o : Nat} (h : oState S n P o) : ∀ i, i < 6 → P (o + 1) i = some (o + 15 + 3 * i) ∧ oTank S n P (o + 15 + 3 * i) := h.2.2.2.2.1
theorem State_p_strengths {S : BqH} {n : Nat} {P : BqP} {o : Nat} (h : oState S n P o) : P o 4 = some (o + 2) := h.2.2.2.2.2.1
theorem State_s_strengths {S : BqH} {n : Nat} {P : BqP} {o : Nat} (h : oState S n P o) : oA S n (o + 2) 16 := h.2.2.2.2.2.2.1
theorem State_p_brewDays {S : BqH} {n : Nat} {P : BqP} {o : Nat} (h : oState S n P o) : P o 5 = some (o + 3) := h.2.2.2.2.2.2.2.1
theorem State_s_brewDays {S : BqH} {n : Nat} {P : BqP} {o : Nat} (h : oState S n P o) : oA S n (o + 3) 16 := h.2.2.2.2.2.2.2.2.1
theorem State_p_brewed {S : BqH} {n : Nat} {P : BqP} {o : Nat} (h : oState S n P o) : P o 6 = some (o + 4) := h.2.2.2.2.2.2.2.2.2.1
theorem State_s_brewed {S : BqH} {n : Nat} {P : BqP} {o : Nat} (h : oState S n P o) : oBlend S n P (o + 4) := h.2.2.2.2.2.2.2.2.2.2.1
theorem State_p_filled {S : BqH} {n : Nat} {P : BqP} {o : Nat} (h : oState S n P o) : P o 7 = some (o + 6) := h.2.2.2.2.2.2.2.2.2.2.2.1
theorem State_s_filled {S : BqH} {n : Nat} {P : BqP} {o : Nat} (h : oState S n P o) : oBlend S n P (o + 6) := h.2.2.2.2.2.2.2.2.2.2.2.2.1
theorem State_p_lost {S : BqH} {n : Nat} {P : BqP} {o : Nat} (h : oState S n P o) : P o 8 = some (o + 8) := h.2.2.2.2.2.2.2.2.2.2.2.2.2.1
theorem State_s_lost {S : BqH} {n : Nat} {P : BqP} {o : Nat} (h : oState S n P o) : oBlend S n P (o + 8) := h.2.2.2.2.2.2.2.2.2.2.2.2.2.2.1
theorem State_p_lostFor {S : BqH} {n : Nat} {P : BqP} {o : Nat} (h : oState S n P o) : P o 9 = some (o + 10) := h.2.2.2.2.2.2.2.2.2.2.2.2.2.2.2.1
theorem State_s_lostFor {S : BqH} {n : Nat} {P : BqP} {o : Nat} (h : oState S n P o) : oA S n (o + 10) 4 := h.2.2.2.2.2.2.2.2.2.2.2.2.2.2.2.2.1
theorem State_p_rates {S : BqH} {n : Nat} {P : BqP} {o : Nat} (h : oState S n P o) : P o 11 = some (o + 11) := h.2.2.2.2.2.2.2.2.2.2.2.2.2.2.2.2.2.1
theorem Staterates_sh {S : BqH} {n : Nat} {P : BqP} {o : Nat} (h : oState S n P o) : S (o + 11) = (18, 10) := h.2.2.2.2.2.2.2.2.2.2.2.2.2.2.2.2.2.2.1
theorem Staterates_a {S : BqH} {n : Nat} {P : BqP} {o : Nat} (h : oState S n P o) : ∀ i, i < 10 → P (o + 11) i = some (o + 33 + i) ∧ oRate S n P (o + 33 + i) := h.2.2.2.2.2.2.2.2.2.2.2.2.2.2.2.2.2.2.2.1
theorem State_p_orders {S : BqH} {n : Nat} {P : BqP} {o : Nat} (h : oState S n P o) : P o 13 = some (o + 12) := h.2.2.2.2.2.2.2.2.2.2.2.2.2.2.2.2.2.2.2.2.1
theorem Stateorders_sh {S : BqH} {n : Nat} {P : BqP} {o : Nat} (h : oState S n P o) : S (o + 12) = (17, 10) := h.2.2.2.2.2.2.2.2.2.2.2.2.2.2.2.2.2.2.2.2.2.1
theorem Stateorders_a {S : BqH} {n : Nat} {P : BqP} {o : Nat} (h : oState S n P o) : ∀ i, i < 10 → P (o + 12) i = some (o + 43 + i) ∧ oOrder S n P (o + 43 + i) := h.2.2.2.2.2.2.2.2.2.2.2.2.2.2.2.2.2.2.2.2.2.2.1
theorem State_p_journal {S : BqH} {n : Nat} {P : BqP} {o : Nat} (h : oState S n P o) : P o 16 = some (o + 13) := h.2.2.2.2.2.2.2.2.2.2.2.2.2.2.2.2.2.2.2.2.2.2.2.1
theorem State_s_journal {S : BqH} {n : Nat} {P : BqP} {o : Nat} (h : oState S n P o) : oJournal S n P (o + 13) := h.2.2.2.2.2.2.2.2.2.2.2.2.2.2.2.2.2.2.2.2.2.2.2.2
theorem Statetanks_lt {S : BqH} {n : Nat} {P : BqP} {o : Nat} (h : oState S n P o) : o + 1 < n := by have := h.2.1; omega
theorem Statetanks_p_el {S : BqH} {n : Nat} {P : BqP} {o i : Nat} (h : oState S n P o) (hi : i < 6) : P (o + 1) i = some (o + 15 + 3 * i) := (Statetanks_a h i hi).1
theorem Statetanks_s_el {S : BqH} {n : Nat} {P : BqP} {o i : Nat} (h : oState S n P o) (hi : i < 6) : oTank S n P (o + 15 + 3 * i) := (Statetanks_a h i hi).2
theorem Staterates_lt {S : BqH} {n : Nat} {P : BqP} {o : Nat} (h : oState S n P o) : o + 11 < n := by have := h.2.1; omega
theorem Staterates_p_el {S : BqH} {n : Nat} {P : BqP} {o i : Nat} (h : oState S n P o) (hi : i < 10) : P (o + 11) i = some (o + 33 + i) := (Staterates_a h i hi).1
theorem Staterates_s_el {S : BqH} {n : Nat} {P : BqP} {o i : Nat} (h : oState S n P o) (hi : i < 10) : oRate S n P (o + 33 + i) := (Staterates_a h i hi).2
theorem Stateorders_lt {S : BqH} {n : Nat} {P : BqP} {o : Nat} (h : oState S n P o) : o + 12 < n := by have := h.2.1; omega
theorem Stateorders_p_el {S : BqH} {n : Nat} {P : BqP} {o i : Nat} (h : oState S n P o) (hi : i < 10) : P (o + 12) i = some (o + 43 + i) := (Stateorders_a h i hi).1
theorem Stateorders_s_el {S : BqH} {n : Nat} {P : BqP} {o i : Nat} (h : oState S n P o) (hi : i < 10) : oOrder S n P (o + 43 + i) := (Stateorders_a h i hi).2
def oModel (S : BqH) (n : Nat) (P : BqP) (o : Nat) : Prop := S o = (12, 0) ∧ o + 13 < n ∧ P o 0 = some (o + 1) ∧ oA S n (o + 1) 650 ∧ P o 1 = some (o + 2) ∧ oA S n (o + 2) 3900 ∧ P o 3 = some (o + 3) ∧ oA S n (o + 3) 650 ∧ P o 5 = some (o + 4) ∧ oA S n (o + 4) 650 ∧ P o 8 = some (o + 5) ∧ oA S n (o + 5) 60 ∧ P o 10 = some (o + 6) ∧ oA S n (o + 6) 16 ∧ P o 11 = some (o + 7) ∧ oA S n (o + 7) 16 ∧ P o 12 = some (o + 8) ∧ oA S n (o + 8) 16 ∧ P o 13 = some (o + 9) ∧ oA S n (o + 9) 10 ∧ P o 14 = some (o + 10) ∧ oA S n (o + 10) 10 ∧ P o 15 = some (o + 11) ∧ oZ S n (o + 11) 10 ∧ P o 16 = some (o + 12) ∧ oA S n (o + 12) 96 ∧ P o 20 = some (o + 13) ∧ oA S n (o + 13) 240
theorem Model_sh {S : BqH} {n : Nat} {P : BqP} {o : Nat} (h : oModel S n P o) : S o = (12, 0) := h.1
theorem Model_lt {S : BqH} {n : Nat} {P : BqP} {o : Nat} (h : oModel S n P o) : o < n := by have := h.2.1; omega
theorem Model_p_g {S : BqH} {n : Nat} {P : BqP} {o : Nat} (h : oModel S n P o) : P o 0 = some (o + 1) := h.2.2.1
theorem Model_s_g {S : BqH} {n : Nat} {P : BqP} {o : Nat} (h : oModel S n P o) : oA S n (o + 1) 650 := h.2.2.2.1
theorem Model_p_history {S : BqH} {n : Nat} {P : BqP} {o : Nat} (h : oModel S n P o) : P o 1 = some (o + 2) := h.2.2.2.2.1
theorem Model_s_history {S : BqH} {n : Nat} {P : BqP} {o : Nat} (h : oModel S n P o) : oA S n (o + 2) 3900 := h.2.2.2.2.2.1
theorem Model_p_kept {S : BqH} {n : Nat} {P : BqP} {o : Nat} (h : oModel S n P o) : P o 3 = some (o + 3) := h.2.2.2.2.2.2.1
theorem Model_s_kept {S : BqH} {n : Nat} {P : BqP} {o : Nat} (h : oModel S n P o) : oA S n (o + 3) 650 := h.2.2.2.2.2.2.2.1
theorem Model_p_before {S : BqH} {n : Nat} {P : BqP} {o : Nat} (h : oModel S n P o) : P o 5 = some (o + 4) := h.2.2.2.2.2.2.2.2.1
theorem Model_s_before {S : BqH} {n : Nat} {P : BqP} {o : Nat} (h : oModel S n P o) : oA S n (o + 4) 650 := h.2.2.2.2.2.2.2.2.2.1
theorem Model_p_tape {S : BqH} {n : Nat} {P : BqP} {o : Nat} (h : oModel S n P o) : P o 8 = some (o + 5) := h.2.2.2.2.2.2.2.2.2.2.1
theorem Model_s_tape {S : BqH} {n : Nat} {P : BqP} {o : Nat} (h : oModel S n P o) : oA S n (o + 5) 60 := h.2.2.2.2.2.2.2.2.2.2.2.1
theorem Model_p_there {S : BqH} {n : Nat} {P : BqP} {o : Nat} (h : oModel S n P o) : P o 10 = some (o + 6) := h.2.2.2.2.2.2.2.2.2.2.2.2.1
theorem Model_s_there {S : BqH} {n : Nat} {P : BqP} {o : Nat} (h : oModel S n P o) : oA S n (o + 6) 16 := h.2.2.2.2.2.2.2.2.2.2.2.2.2.1
theorem Model_p_taken {S : BqH} {n : Nat} {P : BqP} {o : Nat} (h : oModel S n P o) : P o 11 = some (o + 7) := h.2.2.2.2.2.2.2.2.2.2.2.2.2.2.1
theorem Model_s_taken {S : BqH} {n : Nat} {P : BqP} {o : Nat} (h : oModel S n P o) : oA S n (o + 7) 16 := h.2.2.2.2.2.2.2.2.2.2.2.2.2.2.2.1
theorem Model_p_rests {S : BqH} {n : Nat} {P : BqP} {o : Nat} (h : oModel S n P o) : P o 12 = some (o + 8) := h.2.2.2.2.2.2.2.2.2.2.2.2.2.2.2.2.1
theorem Model_s_rests {S : BqH} {n : Nat} {P : BqP} {o : Nat} (h : oModel S n P o) : oA S n (o + 8) 16 := h.2.2.2.2.2.2.2.2.2.2.2.2.2.2.2.2.2.1
theorem Model_p_plannedRow {S : BqH} {n : Nat} {P : BqP} {o : Nat} (h : oModel S n P o) : P o 13 = some (o + 9) := h.2.2.2.2.2.2.2.2.2.2.2.2.2.2.2.2.2.2.1
theorem Model_s_plannedRow {S : BqH} {n : Nat} {P : BqP} {o : Nat} (h : oModel S n P o) : oA S n (o + 9) 10 := h.2.2.2.2.2.2.2.2.2.2.2.2.2.2.2.2.2.2.2.1
theorem Model_p_planTank {S : BqH} {n : Nat} {P : BqP} {o : Nat} (h : oModel S n P o) : P o 14 = some (o + 10) := h.2.2.2.2.2.2.2.2.2.2.2.2.2.2.2.2.2.2.2.2.1
theorem Model_s_planTank {S : BqH} {n : Nat} {P : BqP} {o : Nat} (h : oModel S n P o) : oA S n (o + 10) 10 := h.2.2.2.2.2.2.2.2.2.2.2.2.2.2.2.2.2.2.2.2.2.1
theorem Model_p_wasSeen {S : BqH} {n : Nat} {P : BqP} {o : Nat} (h : oModel S n P o) : P o 15 = some (o + 11) := h.2.2.2.2.2.2.2.2.2.2.2.2.2.2.2.2.2.2.2.2.2.2.1
theorem Model_s_wasSeen {S : BqH} {n : Nat} {P : BqP} {o : Nat} (h : oModel S n P o) : oZ S n (o + 11) 10 := h.2.2.2.2.2.2.2.2.2.2.2.2.2.2.2.2.2.2.2.2.2.2.2.1
theorem Model_p_planned {S : BqH} {n : Nat} {P : BqP} {o : Nat} (h : oModel S n P o) : P o 16 = some (o + 12) := h.2.2.2.2.2.2.2.2.2.2.2.2.2.2.2.2.2.2.2.2.2.2.2.2.1
theorem Model_s_planned {S : BqH} {n : Nat} {P : BqP} {o : Nat} (h : oModel S n P o) : oA S n (o + 12) 96 := h.2.2.2.2.2.2.2.2.2.2.2.2.2.2.2.2.2.2.2.2.2.2.2.2.2.1
theorem Model_p_told {S : BqH} {n : Nat} {P : BqP} {o : Nat} (h : oModel S n P o) : P o 20 = some (o + 13) := h.2.2.2.2.2.2.2.2.2.2.2.2.2.2.2.2.2.2.2.2.2.2.2.2.2.2.1
theorem Model_s_told {S : BqH} {n : Nat} {P : BqP} {o : Nat} (h : oModel S n P o) : oA S n (o + 13) 240 := h.2.2.2.2.2.2.2.2.2.2.2.2.2.2.2.2.2.2.2.2.2.2.2.2.2.2.2
/-! pure words -/
theorem bq_inc (i : Nat) : nI i + Int32.ofInt 1 = nI (i + 1) := nI_1 i
theorem bq_down {A : Nat → Prop} (N : Nat) (hx : A N) (hs : ∀ i, i < N → A (i + 1) → A i) : ∀ i, i ≤ N → A i := by
  intro i hi
  obtain ⟨d, rfl⟩ : ∃ d, N = i + d := ⟨N - i, by omega⟩
  clear hi
  induction d generalizing i with
  | zero => exact hx
  | succ d ih =>
    exact hs i (by omega) (ih (i + 1) (by rw [show i + 1 + d = i + (d + 1) by omega]; exact hx) (by intro j hj; rw [show i + 1 + d = i + (d + 1) by omega] at hj; exact hs j hj))
def bq_sum (f : Nat → Int32) : Nat → Int32
  | 0 => nI 0
  | k + 1 => bq_sum f k + f k
theorem q_iaddN {M : BqM} {fr lo kc ks pc : Nat} {vs : List (Option Value)} {st : List Value} {S : BqH} {n : Nat} {I : BqI} {L : BqL} {P : BqP} {post : BqQ} {x y : Nat} (hd : decode M.2.1 pc = .ok (.iadd, 1)) (k : bq_W M fr lo kc ks (pc + 1) vs (.int (nI (x + y)) :: st) S n I L P post) : bq_W M fr lo kc ks pc vs (.int (nI y) :: .int (nI x) :: st) S n I L P post := q_iadd hd (by rw [nI_add]; exact k)
theorem q_imulN {M : BqM} {fr lo kc ks pc : Nat} {vs : List (Option Value)} {st : List Value} {S : BqH} {n : Nat} {I : BqI} {L : BqL} {P : BqP} {post : BqQ} {x y : Nat} (hd : decode M.2.1 pc = .ok (.imul, 1)) (k : bq_W M fr lo kc ks (pc + 1) vs (.int (nI (x * y)) :: st) S n I L P post) : bq_W M fr lo kc ks pc vs (.int (nI y) :: .int (nI x) :: st) S n I L P post := q_imul hd (by rw [pk_mul]; exact k)
def bq_b (p : Prop) [Decidable p] : Int32 := if p then nI 1 else nI 0
theorem bq_b0 {p : Prop} [Decidable p] : bq_b p = 0 ↔ ¬ p := by
  unfold bq_b
  by_cases h : p
  · rw [if_pos h]; exact ⟨fun q => absurd q (by decide), fun q => absurd h q⟩
  · rw [if_neg h]; exact ⟨fun _ => h, fun _ => by decide⟩
theorem bq_bn {p : Prop} [Decidable p] : ¬ bq_b p = 0 ↔ p := by
  rw [bq_b0]; exact Decidable.not_not
theorem bq_bz {p : Prop} [Decidable p] : bq_b p = 0 ∨ bq_b p = 1 := by
  unfold bq_b; by_cases h : p
  · rw [if_pos h]; exact Or.inr (by decide)
  · rw [if_neg h]; exact Or.inl (by decide)
theorem bq_dn {A : Nat → Nat → Prop} (N : Nat) (hx : ∀ k, A k N) (hs : ∀ k i, i < N → (∀ k', A k' (i + 1)) → A k i) : ∀ k i, i ≤ N → A k i := by
  intro k i hi
  exact bq_down (A := fun i => ∀ k, A k i) N hx (fun i hi ih k => hs k i hi ih) i hi k
theorem bq_i64 {x : Int32} (h : ¬ x ≤ 0) : ¬ x.toInt64 = 0 := by
  intro q
  have h1 : x.toInt64.toInt = (0 : Int64).toInt := congrArg _ q
  rw [Int32.toInt_toInt64] at h1
  apply h
  rw [Int32.le_iff_toInt_le]
  have : (0 : Int32).toInt = 0 := by decide
  have h2 : (0 : Int64).toInt = 0 := by decide
  omega
theorem bq_pos0 {x : Int32} (h : ¬ x ≤ 0) : ¬ x = 0 := fun q => h (by rw [q]; decide)
/-- the first k of a row copied -/
def bq_cp (I : BqI) (s d k : Nat) : BqI := bq_r I d (fun j => if j < k then I s j else I d j)
def bq_alc (f g : Nat → Int32) : Nat → Int64
  | 0 => 0
  | k + 1 => bq_alc f g k + (f k).toInt64 * (g k).toInt64
def bq_sos (f g : Nat → Int32) : Nat → Int64
  | 0 => 0
  | k + 1 => if f k ≤ 0 then bq_sos f g k else bq_sos f g k + (g k).toInt64
def bq_cnt (f : Nat → Int32) : Nat → Nat
  | 0 => 0
  | k + 1 => if f k ≤ 0 then bq_cnt f k else bq_cnt f k + 1
def bq_str (f g : Nat → Int32) : Int32 := if bq_sum f 16 ≤ 0 then (-5) else (bq_alc f g 16 / (bq_sum f 16).toInt64).toInt32
/-- the first k of row s added to row d -/
def bl_add (I : BqI) (d s : Nat) : Nat → BqI
  | 0 => I
  | k + 1 => bq_u (bl_add I d s k) d k (bl_add I d s k d k + bl_add I d s k s k)
def bl_rem (I : BqI) (d s : Nat) : Nat → BqI
  | 0 => I
  | k + 1 => bq_u (bl_rem I d s k) d k (bl_rem I d s k d k - bl_rem I d s k s k)
