/-! The static layout of the law's objects: written by wip/tools/gensl.py -/
def SLk (X : Nat) (m : Mem) : Prop := mK m X = 3 ∧ mK m (X + 1) = 5 ∧ mK m (X + 2) = 0 ∧ mK m (X + 3) = 5 ∧ mK m (X + 4) = 5 ∧ mK m (X + 5) = 7 ∧ mK m (X + 6) = 8 ∧ mK m (X + 7) = 5 ∧ mK m (X + 8) = 5 ∧ mK m (X + 9) = 5 ∧ mK m (X + 10) = 5 ∧ mK m (X + 11) = 6 ∧ mK m (X + 12) = 4 ∧ mK m (X + 13) = 5 ∧ mK m (X + 14) = 5 ∧ mK m (X + 15) = 5 ∧ mK m (X + 16) = 5 ∧ mK m (X + 17) = 5 ∧ mK m (X + 18) = 5 ∧ mK m (X + 19) = 6 ∧ mK m (X + 20) = 5 ∧ mK m (X + 21) = 5 ∧ mK m (X + 22) = 5 ∧ mK m (X + 23) = 5 ∧ mK m (X + 24) = 5 ∧ mK m (X + 25) = 6 ∧ mK m (X + 26) = 5 ∧ mK m (X + 27) = 5 ∧ mK m (X + 28) = 5 ∧ mK m (X + 29) = 5 ∧ mK m (X + 30) = 5 ∧ mK m (X + 31) = 5 ∧ mK m (X + 32) = 5 ∧ mK m (X + 33) = 5 ∧ mK m (X + 34) = 6 ∧ mK m (X + 35) = 5 ∧ mK m (X + 36) = 9
def SLn (X : Nat) (m : Mem) : Prop := mN m (X + 1) = 100 ∧ mN m (X + 3) = 6 ∧ mN m (X + 4) = 6 ∧ mN m (X + 5) = 20 ∧ mN m (X + 6) = 4 ∧ mN m (X + 7) = 100 ∧ mN m (X + 8) = 100 ∧ mN m (X + 9) = 100 ∧ mN m (X + 10) = 100 ∧ mN m (X + 11) = 4 ∧ mN m (X + 13) = 100 ∧ mN m (X + 14) = 100 ∧ mN m (X + 15) = 100 ∧ mN m (X + 16) = 100 ∧ mN m (X + 17) = 6 ∧ mN m (X + 18) = 20 ∧ mN m (X + 19) = 21 ∧ mN m (X + 20) = 21 ∧ mN m (X + 21) = 21 ∧ mN m (X + 22) = 21 ∧ mN m (X + 23) = 2100 ∧ mN m (X + 24) = 2100 ∧ mN m (X + 25) = 2100 ∧ mN m (X + 26) = 6 ∧ mN m (X + 27) = 100 ∧ mN m (X + 28) = 100 ∧ mN m (X + 29) = 100 ∧ mN m (X + 30) = 600 ∧ mN m (X + 31) = 6 ∧ mN m (X + 32) = 6 ∧ mN m (X + 33) = 600 ∧ mN m (X + 34) = 4 ∧ mN m (X + 35) = 400 ∧ mN m (X + 36) = 1
def SLr (X : Nat) (m : Mem) : Prop := mR m X 0 = some (X + 1) ∧ mR m X 1 = some (X + 2) ∧ mR m X 2 = some (X + 5) ∧ mR m X 9 = some (X + 6) ∧ mR m X 10 = some (X + 11) ∧ mR m (X + 2) 0 = some (X + 3) ∧ mR m (X + 2) 1 = some (X + 4) ∧ mR m (X + 6) 0 = some (X + 7) ∧ mR m (X + 6) 1 = some (X + 8) ∧ mR m (X + 6) 2 = some (X + 9) ∧ mR m (X + 6) 3 = some (X + 10) ∧ mR m (X + 12) 1 = some (X + 13) ∧ mR m (X + 12) 2 = some (X + 14) ∧ mR m (X + 12) 3 = some (X + 15) ∧ mR m (X + 12) 4 = some (X + 16) ∧ mR m (X + 12) 6 = some (X + 17) ∧ mR m (X + 12) 8 = some (X + 18) ∧ mR m (X + 12) 9 = some (X + 19) ∧ mR m (X + 12) 10 = some (X + 20) ∧ mR m (X + 12) 11 = some (X + 21) ∧ mR m (X + 12) 12 = some (X + 22) ∧ mR m (X + 12) 13 = some (X + 23) ∧ mR m (X + 12) 14 = some (X + 24) ∧ mR m (X + 12) 15 = some (X + 25) ∧ mR m (X + 12) 23 = some (X + 26) ∧ mR m (X + 12) 24 = some (X + 27) ∧ mR m (X + 12) 25 = some (X + 28) ∧ mR m (X + 12) 26 = some (X + 29) ∧ mR m (X + 12) 27 = some (X + 30) ∧ mR m (X + 12) 29 = some (X + 31) ∧ mR m (X + 12) 30 = some (X + 32) ∧ mR m (X + 12) 31 = some (X + 33) ∧ mR m (X + 12) 32 = some (X + 34) ∧ mR m (X + 12) 33 = some (X + 35)
def SL (X : Nat) (m : Mem) : Prop := X + 37 ≤ mS m ∧ SLk X m ∧ SLn X m ∧ SLr X m
theorem sk0 {X : Nat} {m : Mem} (h : SL X m) : mK m X = 3 := h.2.1.1
theorem sk1 {X : Nat} {m : Mem} (h : SL X m) : mK m (X + 1) = 5 := h.2.1.2.1
theorem sk2 {X : Nat} {m : Mem} (h : SL X m) : mK m (X + 2) = 0 := h.2.1.2.2.1
theorem sk3 {X : Nat} {m : Mem} (h : SL X m) : mK m (X + 3) = 5 := h.2.1.2.2.2.1
theorem sk4 {X : Nat} {m : Mem} (h : SL X m) : mK m (X + 4) = 5 := h.2.1.2.2.2.2.1
theorem sk5 {X : Nat} {m : Mem} (h : SL X m) : mK m (X + 5) = 7 := h.2.1.2.2.2.2.2.1
theorem sk6 {X : Nat} {m : Mem} (h : SL X m) : mK m (X + 6) = 8 := h.2.1.2.2.2.2.2.2.1
theorem sk7 {X : Nat} {m : Mem} (h : SL X m) : mK m (X + 7) = 5 := h.2.1.2.2.2.2.2.2.2.1
theorem sk8 {X : Nat} {m : Mem} (h : SL X m) : mK m (X + 8) = 5 := h.2.1.2.2.2.2.2.2.2.2.1
theorem sk9 {X : Nat} {m : Mem} (h : SL X m) : mK m (X + 9) = 5 := h.2.1.2.2.2.2.2.2.2.2.2.1
theorem sk10 {X : Nat} {m : Mem} (h : SL X m) : mK m (X + 10) = 5 := h.2.1.2.2.2.2.2.2.2.2.2.2.1
theorem sk11 {X : Nat} {m : Mem} (h : SL X m) : mK m (X + 11) = 6 := h.2.1.2.2.2.2.2.2.2.2.2.2.2.1
theorem sk12 {X : Nat} {m : Mem} (h : SL X m) : mK m (X + 12) = 4 := h.2.1.2.2.2.2.2.2.2.2.2.2.2.2.1
theorem sk13 {X : Nat} {m : Mem} (h : SL X m) : mK m (X + 13) = 5 := h.2.1.2.2.2.2.2.2.2.2.2.2.2.2.2.1
theorem sk14 {X : Nat} {m : Mem} (h : SL X m) : mK m (X + 14) = 5 := h.2.1.2.2.2.2.2.2.2.2.2.2.2.2.2.2.1
theorem sk15 {X : Nat} {m : Mem} (h : SL X m) : mK m (X + 15) = 5 := h.2.1.2.2.2.2.2.2.2.2.2.2.2.2.2.2.2.1
theorem sk16 {X : Nat} {m : Mem} (h : SL X m) : mK m (X + 16) = 5 := h.2.1.2.2.2.2.2.2.2.2.2.2.2.2.2.2.2.2.1
theorem sk17 {X : Nat} {m : Mem} (h : SL X m) : mK m (X + 17) = 5 := h.2.1.2.2.2.2.2.2.2.2.2.2.2.2.2.2.2.2.2.1
theorem sk18 {X : Nat} {m : Mem} (h : SL X m) : mK m (X + 18) = 5 := h.2.1.2.2.2.2.2.2.2.2.2.2.2.2.2.2.2.2.2.2.1
theorem sk19 {X : Nat} {m : Mem} (h : SL X m) : mK m (X + 19) = 6 := h.2.1.2.2.2.2.2.2.2.2.2.2.2.2.2.2.2.2.2.2.2.1
theorem sk20 {X : Nat} {m : Mem} (h : SL X m) : mK m (X + 20) = 5 := h.2.1.2.2.2.2.2.2.2.2.2.2.2.2.2.2.2.2.2.2.2.2.1
theorem sk21 {X : Nat} {m : Mem} (h : SL X m) : mK m (X + 21) = 5 := h.2.1.2.2.2.2.2.2.2.2.2.2.2.2.2.2.2.2.2.2.2.2.2.1
theorem sk22 {X : Nat} {m : Mem} (h : SL X m) : mK m (X + 22) = 5 := h.2.1.2.2.2.2.2.2.2.2.2.2.2.2.2.2.2.2.2.2.2.2.2.2.1
theorem sk23 {X : Nat} {m : Mem} (h : SL X m) : mK m (X + 23) = 5 := h.2.1.2.2.2.2.2.2.2.2.2.2.2.2.2.2.2.2.2.2.2.2.2.2.2.1
theorem sk24 {X : Nat} {m : Mem} (h : SL X m) : mK m (X + 24) = 5 := h.2.1.2.2.2.2.2.2.2.2.2.2.2.2.2.2.2.2.2.2.2.2.2.2.2.2.1
theorem sk25 {X : Nat} {m : Mem} (h : SL X m) : mK m (X + 25) = 6 := h.2.1.2.2.2.2.2.2.2.2.2.2.2.2.2.2.2.2.2.2.2.2.2.2.2.2.2.1
theorem sk26 {X : Nat} {m : Mem} (h : SL X m) : mK m (X + 26) = 5 := h.2.1.2.2.2.2.2.2.2.2.2.2.2.2.2.2.2.2.2.2.2.2.2.2.2.2.2.2.1
theorem sk27 {X : Nat} {m : Mem} (h : SL X m) : mK m (X + 27) = 5 := h.2.1.2.2.2.2.2.2.2.2.2.2.2.2.2.2.2.2.2.2.2.2.2.2.2.2.2.2.2.1
theorem sk28 {X : Nat} {m : Mem} (h : SL X m) : mK m (X + 28) = 5 := h.2.1.2.2.2.2.2.2.2.2.2.2.2.2.2.2.2.2.2.2.2.2.2.2.2.2.2.2.2.2.1
theorem sk29 {X : Nat} {m : Mem} (h : SL X m) : mK m (X + 29) = 5 := h.2.1.2.2.2.2.2.2.2.2.2.2.2.2.2.2.2.2.2.2.2.2.2.2.2.2.2.2.2.2.2.1
theorem sk30 {X : Nat} {m : Mem} (h : SL X m) : mK m (X + 30) = 5 := h.2.1.2.2.2.2.2.2.2.2.2.2.2.2.2.2.2.2.2.2.2.2.2.2.2.2.2.2.2.2.2.2.1
theorem sk31 {X : Nat} {m : Mem} (h : SL X m) : mK m (X + 31) = 5 := h.2.1.2.2.2.2.2.2.2.2.2.2.2.2.2.2.2.2.2.2.2.2.2.2.2.2.2.2.2.2.2.2.2.1
theorem sk32 {X : Nat} {m : Mem} (h : SL X m) : mK m (X + 32) = 5 := h.2.1.2.2.2.2.2.2.2.2.2.2.2.2.2.2.2.2.2.2.2.2.2.2.2.2.2.2.2.2.2.2.2.2.1
theorem sk33 {X : Nat} {m : Mem} (h : SL X m) : mK m (X + 33) = 5 := h.2.1.2.2.2.2.2.2.2.2.2.2.2.2.2.2.2.2.2.2.2.2.2.2.2.2.2.2.2.2.2.2.2.2.2.1
theorem sk34 {X : Nat} {m : Mem} (h : SL X m) : mK m (X + 34) = 6 := h.2.1.2.2.2.2.2.2.2.2.2.2.2.2.2.2.2.2.2.2.2.2.2.2.2.2.2.2.2.2.2.2.2.2.2.2.1
theorem sk35 {X : Nat} {m : Mem} (h : SL X m) : mK m (X + 35) = 5 := h.2.1.2.2.2.2.2.2.2.2.2.2.2.2.2.2.2.2.2.2.2.2.2.2.2.2.2.2.2.2.2.2.2.2.2.2.2.1
theorem sk36 {X : Nat} {m : Mem} (h : SL X m) : mK m (X + 36) = 9 := h.2.1.2.2.2.2.2.2.2.2.2.2.2.2.2.2.2.2.2.2.2.2.2.2.2.2.2.2.2.2.2.2.2.2.2.2.2.2
theorem sn1 {X : Nat} {m : Mem} (h : SL X m) : mN m (X + 1) = 100 := h.2.2.1.1
theorem sn3 {X : Nat} {m : Mem} (h : SL X m) : mN m (X + 3) = 6 := h.2.2.1.2.1
theorem sn4 {X : Nat} {m : Mem} (h : SL X m) : mN m (X + 4) = 6 := h.2.2.1.2.2.1
theorem sn5 {X : Nat} {m : Mem} (h : SL X m) : mN m (X + 5) = 20 := h.2.2.1.2.2.2.1
theorem sn6 {X : Nat} {m : Mem} (h : SL X m) : mN m (X + 6) = 4 := h.2.2.1.2.2.2.2.1
theorem sn7 {X : Nat} {m : Mem} (h : SL X m) : mN m (X + 7) = 100 := h.2.2.1.2.2.2.2.2.1
theorem sn8 {X : Nat} {m : Mem} (h : SL X m) : mN m (X + 8) = 100 := h.2.2.1.2.2.2.2.2.2.1
theorem sn9 {X : Nat} {m : Mem} (h : SL X m) : mN m (X + 9) = 100 := h.2.2.1.2.2.2.2.2.2.2.1
theorem sn10 {X : Nat} {m : Mem} (h : SL X m) : mN m (X + 10) = 100 := h.2.2.1.2.2.2.2.2.2.2.2.1
theorem sn11 {X : Nat} {m : Mem} (h : SL X m) : mN m (X + 11) = 4 := h.2.2.1.2.2.2.2.2.2.2.2.2.1
theorem sn13 {X : Nat} {m : Mem} (h : SL X m) : mN m (X + 13) = 100 := h.2.2.1.2.2.2.2.2.2.2.2.2.2.1
theorem sn14 {X : Nat} {m : Mem} (h : SL X m) : mN m (X + 14) = 100 := h.2.2.1.2.2.2.2.2.2.2.2.2.2.2.1
theorem sn15 {X : Nat} {m : Mem} (h : SL X m) : mN m (X + 15) = 100 := h.2.2.1.2.2.2.2.2.2.2.2.2.2.2.2.1
theorem sn16 {X : Nat} {m : Mem} (h : SL X m) : mN m (X + 16) = 100 := h.2.2.1.2.2.2.2.2.2.2.2.2.2.2.2.2.1
theorem sn17 {X : Nat} {m : Mem} (h : SL X m) : mN m (X + 17) = 6 := h.2.2.1.2.2.2.2.2.2.2.2.2.2.2.2.2.2.1
theorem sn18 {X : Nat} {m : Mem} (h : SL X m) : mN m (X + 18) = 20 := h.2.2.1.2.2.2.2.2.2.2.2.2.2.2.2.2.2.2.1
theorem sn19 {X : Nat} {m : Mem} (h : SL X m) : mN m (X + 19) = 21 := h.2.2.1.2.2.2.2.2.2.2.2.2.2.2.2.2.2.2.2.1
theorem sn20 {X : Nat} {m : Mem} (h : SL X m) : mN m (X + 20) = 21 := h.2.2.1.2.2.2.2.2.2.2.2.2.2.2.2.2.2.2.2.2.1
theorem sn21 {X : Nat} {m : Mem} (h : SL X m) : mN m (X + 21) = 21 := h.2.2.1.2.2.2.2.2.2.2.2.2.2.2.2.2.2.2.2.2.2.1
theorem sn22 {X : Nat} {m : Mem} (h : SL X m) : mN m (X + 22) = 21 := h.2.2.1.2.2.2.2.2.2.2.2.2.2.2.2.2.2.2.2.2.2.2.1
theorem sn23 {X : Nat} {m : Mem} (h : SL X m) : mN m (X + 23) = 2100 := h.2.2.1.2.2.2.2.2.2.2.2.2.2.2.2.2.2.2.2.2.2.2.2.1
theorem sn24 {X : Nat} {m : Mem} (h : SL X m) : mN m (X + 24) = 2100 := h.2.2.1.2.2.2.2.2.2.2.2.2.2.2.2.2.2.2.2.2.2.2.2.2.1
theorem sn25 {X : Nat} {m : Mem} (h : SL X m) : mN m (X + 25) = 2100 := h.2.2.1.2.2.2.2.2.2.2.2.2.2.2.2.2.2.2.2.2.2.2.2.2.2.1
theorem sn26 {X : Nat} {m : Mem} (h : SL X m) : mN m (X + 26) = 6 := h.2.2.1.2.2.2.2.2.2.2.2.2.2.2.2.2.2.2.2.2.2.2.2.2.2.2.1
theorem sn27 {X : Nat} {m : Mem} (h : SL X m) : mN m (X + 27) = 100 := h.2.2.1.2.2.2.2.2.2.2.2.2.2.2.2.2.2.2.2.2.2.2.2.2.2.2.2.1
theorem sn28 {X : Nat} {m : Mem} (h : SL X m) : mN m (X + 28) = 100 := h.2.2.1.2.2.2.2.2.2.2.2.2.2.2.2.2.2.2.2.2.2.2.2.2.2.2.2.2.1
theorem sn29 {X : Nat} {m : Mem} (h : SL X m) : mN m (X + 29) = 100 := h.2.2.1.2.2.2.2.2.2.2.2.2.2.2.2.2.2.2.2.2.2.2.2.2.2.2.2.2.2.1
theorem sn30 {X : Nat} {m : Mem} (h : SL X m) : mN m (X + 30) = 600 := h.2.2.1.2.2.2.2.2.2.2.2.2.2.2.2.2.2.2.2.2.2.2.2.2.2.2.2.2.2.2.1
theorem sn31 {X : Nat} {m : Mem} (h : SL X m) : mN m (X + 31) = 6 := h.2.2.1.2.2.2.2.2.2.2.2.2.2.2.2.2.2.2.2.2.2.2.2.2.2.2.2.2.2.2.2.1
theorem sn32 {X : Nat} {m : Mem} (h : SL X m) : mN m (X + 32) = 6 := h.2.2.1.2.2.2.2.2.2.2.2.2.2.2.2.2.2.2.2.2.2.2.2.2.2.2.2.2.2.2.2.2.1
theorem sn33 {X : Nat} {m : Mem} (h : SL X m) : mN m (X + 33) = 600 := h.2.2.1.2.2.2.2.2.2.2.2.2.2.2.2.2.2.2.2.2.2.2.2.2.2.2.2.2.2.2.2.2.2.1
theorem sn34 {X : Nat} {m : Mem} (h : SL X m) : mN m (X + 34) = 4 := h.2.2.1.2.2.2.2.2.2.2.2.2.2.2.2.2.2.2.2.2.2.2.2.2.2.2.2.2.2.2.2.2.2.2.1
theorem sn35 {X : Nat} {m : Mem} (h : SL X m) : mN m (X + 35) = 400 := h.2.2.1.2.2.2.2.2.2.2.2.2.2.2.2.2.2.2.2.2.2.2.2.2.2.2.2.2.2.2.2.2.2.2.2.1
theorem sn36 {X : Nat} {m : Mem} (h : SL X m) : mN m (X + 36) = 1 := h.2.2.1.2.2.2.2.2.2.2.2.2.2.2.2.2.2.2.2.2.2.2.2.2.2.2.2.2.2.2.2.2.2.2.2.2
theorem sp0_0 {X : Nat} {m : Mem} (h : SL X m) : mR m X 0 = some (X + 1) := h.2.2.2.1
theorem sp0_1 {X : Nat} {m : Mem} (h : SL X m) : mR m X 1 = some (X + 2) := h.2.2.2.2.1
theorem sp0_2 {X : Nat} {m : Mem} (h : SL X m) : mR m X 2 = some (X + 5) := h.2.2.2.2.2.1
theorem sp0_9 {X : Nat} {m : Mem} (h : SL X m) : mR m X 9 = some (X + 6) := h.2.2.2.2.2.2.1
theorem sp0_10 {X : Nat} {m : Mem} (h : SL X m) : mR m X 10 = some (X + 11) := h.2.2.2.2.2.2.2.1
theorem sp2_0 {X : Nat} {m : Mem} (h : SL X m) : mR m (X + 2) 0 = some (X + 3) := h.2.2.2.2.2.2.2.2.1
theorem sp2_1 {X : Nat} {m : Mem} (h : SL X m) : mR m (X + 2) 1 = some (X + 4) := h.2.2.2.2.2.2.2.2.2.1
theorem sp6_0 {X : Nat} {m : Mem} (h : SL X m) : mR m (X + 6) 0 = some (X + 7) := h.2.2.2.2.2.2.2.2.2.2.1
theorem sp6_1 {X : Nat} {m : Mem} (h : SL X m) : mR m (X + 6) 1 = some (X + 8) := h.2.2.2.2.2.2.2.2.2.2.2.1
theorem sp6_2 {X : Nat} {m : Mem} (h : SL X m) : mR m (X + 6) 2 = some (X + 9) := h.2.2.2.2.2.2.2.2.2.2.2.2.1
theorem sp6_3 {X : Nat} {m : Mem} (h : SL X m) : mR m (X + 6) 3 = some (X + 10) := h.2.2.2.2.2.2.2.2.2.2.2.2.2.1
theorem sp12_1 {X : Nat} {m : Mem} (h : SL X m) : mR m (X + 12) 1 = some (X + 13) := h.2.2.2.2.2.2.2.2.2.2.2.2.2.2.1
theorem sp12_2 {X : Nat} {m : Mem} (h : SL X m) : mR m (X + 12) 2 = some (X + 14) := h.2.2.2.2.2.2.2.2.2.2.2.2.2.2.2.1
theorem sp12_3 {X : Nat} {m : Mem} (h : SL X m) : mR m (X + 12) 3 = some (X + 15) := h.2.2.2.2.2.2.2.2.2.2.2.2.2.2.2.2.1
theorem sp12_4 {X : Nat} {m : Mem} (h : SL X m) : mR m (X + 12) 4 = some (X + 16) := h.2.2.2.2.2.2.2.2.2.2.2.2.2.2.2.2.2.1
theorem sp12_6 {X : Nat} {m : Mem} (h : SL X m) : mR m (X + 12) 6 = some (X + 17) := h.2.2.2.2.2.2.2.2.2.2.2.2.2.2.2.2.2.2.1
theorem sp12_8 {X : Nat} {m : Mem} (h : SL X m) : mR m (X + 12) 8 = some (X + 18) := h.2.2.2.2.2.2.2.2.2.2.2.2.2.2.2.2.2.2.2.1
theorem sp12_9 {X : Nat} {m : Mem} (h : SL X m) : mR m (X + 12) 9 = some (X + 19) := h.2.2.2.2.2.2.2.2.2.2.2.2.2.2.2.2.2.2.2.2.1
theorem sp12_10 {X : Nat} {m : Mem} (h : SL X m) : mR m (X + 12) 10 = some (X + 20) := h.2.2.2.2.2.2.2.2.2.2.2.2.2.2.2.2.2.2.2.2.2.1
theorem sp12_11 {X : Nat} {m : Mem} (h : SL X m) : mR m (X + 12) 11 = some (X + 21) := h.2.2.2.2.2.2.2.2.2.2.2.2.2.2.2.2.2.2.2.2.2.2.1
theorem sp12_12 {X : Nat} {m : Mem} (h : SL X m) : mR m (X + 12) 12 = some (X + 22) := h.2.2.2.2.2.2.2.2.2.2.2.2.2.2.2.2.2.2.2.2.2.2.2.1
theorem sp12_13 {X : Nat} {m : Mem} (h : SL X m) : mR m (X + 12) 13 = some (X + 23) := h.2.2.2.2.2.2.2.2.2.2.2.2.2.2.2.2.2.2.2.2.2.2.2.2.1
theorem sp12_14 {X : Nat} {m : Mem} (h : SL X m) : mR m (X + 12) 14 = some (X + 24) := h.2.2.2.2.2.2.2.2.2.2.2.2.2.2.2.2.2.2.2.2.2.2.2.2.2.1
theorem sp12_15 {X : Nat} {m : Mem} (h : SL X m) : mR m (X + 12) 15 = some (X + 25) := h.2.2.2.2.2.2.2.2.2.2.2.2.2.2.2.2.2.2.2.2.2.2.2.2.2.2.1
theorem sp12_23 {X : Nat} {m : Mem} (h : SL X m) : mR m (X + 12) 23 = some (X + 26) := h.2.2.2.2.2.2.2.2.2.2.2.2.2.2.2.2.2.2.2.2.2.2.2.2.2.2.2.1
theorem sp12_24 {X : Nat} {m : Mem} (h : SL X m) : mR m (X + 12) 24 = some (X + 27) := h.2.2.2.2.2.2.2.2.2.2.2.2.2.2.2.2.2.2.2.2.2.2.2.2.2.2.2.2.1
theorem sp12_25 {X : Nat} {m : Mem} (h : SL X m) : mR m (X + 12) 25 = some (X + 28) := h.2.2.2.2.2.2.2.2.2.2.2.2.2.2.2.2.2.2.2.2.2.2.2.2.2.2.2.2.2.1
theorem sp12_26 {X : Nat} {m : Mem} (h : SL X m) : mR m (X + 12) 26 = some (X + 29) := h.2.2.2.2.2.2.2.2.2.2.2.2.2.2.2.2.2.2.2.2.2.2.2.2.2.2.2.2.2.2.1
theorem sp12_27 {X : Nat} {m : Mem} (h : SL X m) : mR m (X + 12) 27 = some (X + 30) := h.2.2.2.2.2.2.2.2.2.2.2.2.2.2.2.2.2.2.2.2.2.2.2.2.2.2.2.2.2.2.2.1
theorem sp12_29 {X : Nat} {m : Mem} (h : SL X m) : mR m (X + 12) 29 = some (X + 31) := h.2.2.2.2.2.2.2.2.2.2.2.2.2.2.2.2.2.2.2.2.2.2.2.2.2.2.2.2.2.2.2.2.1
theorem sp12_30 {X : Nat} {m : Mem} (h : SL X m) : mR m (X + 12) 30 = some (X + 32) := h.2.2.2.2.2.2.2.2.2.2.2.2.2.2.2.2.2.2.2.2.2.2.2.2.2.2.2.2.2.2.2.2.2.1
theorem sp12_31 {X : Nat} {m : Mem} (h : SL X m) : mR m (X + 12) 31 = some (X + 33) := h.2.2.2.2.2.2.2.2.2.2.2.2.2.2.2.2.2.2.2.2.2.2.2.2.2.2.2.2.2.2.2.2.2.2.1
theorem sp12_32 {X : Nat} {m : Mem} (h : SL X m) : mR m (X + 12) 32 = some (X + 34) := h.2.2.2.2.2.2.2.2.2.2.2.2.2.2.2.2.2.2.2.2.2.2.2.2.2.2.2.2.2.2.2.2.2.2.2.1
theorem sp12_33 {X : Nat} {m : Mem} (h : SL X m) : mR m (X + 12) 33 = some (X + 35) := h.2.2.2.2.2.2.2.2.2.2.2.2.2.2.2.2.2.2.2.2.2.2.2.2.2.2.2.2.2.2.2.2.2.2.2.2
theorem SL_setI {X : Nat} {m : Mem} {a k : Nat} {v : Int32} (h : SL X m) : SL X (setI m a k v) := h
theorem SL_cpyI {X : Nat} {m : Mem} {a b : Nat} (h : SL X m) : SL X (cpyI m a b) := h
theorem SL_eq {X : Nat} {m m2 : Mem} (h : SL X m) (hs : mS m ≤ mS m2) (hk : ∀ j, j < 37 → mK m2 (X + j) = mK m (X + j) ∧ mN m2 (X + j) = mN m (X + j)) (hr : ∀ j k b, j < 37 → j ≠ 5 → ¬ (j = 0 ∧ (k = 7 ∨ k = 8)) → mR m (X + j) k = some b → mR m2 (X + j) k = some b) : SL X m2 := by
  refine ⟨Nat.le_trans h.1 hs, ⟨(hk 0 (by decide)).1.trans (sk0 h), (hk 1 (by decide)).1.trans (sk1 h), (hk 2 (by decide)).1.trans (sk2 h), (hk 3 (by decide)).1.trans (sk3 h), (hk 4 (by decide)).1.trans (sk4 h), (hk 5 (by decide)).1.trans (sk5 h), (hk 6 (by decide)).1.trans (sk6 h), (hk 7 (by decide)).1.trans (sk7 h), (hk 8 (by decide)).1.trans (sk8 h), (hk 9 (by decide)).1.trans (sk9 h), (hk 10 (by decide)).1.trans (sk10 h), (hk 11 (by decide)).1.trans (sk11 h), (hk 12 (by decide)).1.trans (sk12 h), (hk 13 (by decide)).1.trans (sk13 h), (hk 14 (by decide)).1.trans (sk14 h), (hk 15 (by decide)).1.trans (sk15 h), (hk 16 (by decide)).1.trans (sk16 h), (hk 17 (by decide)).1.trans (sk17 h), (hk 18 (by decide)).1.trans (sk18 h), (hk 19 (by decide)).1.trans (sk19 h), (hk 20 (by decide)).1.trans (sk20 h), (hk 21 (by decide)).1.trans (sk21 h), (hk 22 (by decide)).1.trans (sk22 h), (hk 23 (by decide)).1.trans (sk23 h), (hk 24 (by decide)).1.trans (sk24 h), (hk 25 (by decide)).1.trans (sk25 h), (hk 26 (by decide)).1.trans (sk26 h), (hk 27 (by decide)).1.trans (sk27 h), (hk 28 (by decide)).1.trans (sk28 h), (hk 29 (by decide)).1.trans (sk29 h), (hk 30 (by decide)).1.trans (sk30 h), (hk 31 (by decide)).1.trans (sk31 h), (hk 32 (by decide)).1.trans (sk32 h), (hk 33 (by decide)).1.trans (sk33 h), (hk 34 (by decide)).1.trans (sk34 h), (hk 35 (by decide)).1.trans (sk35 h), (hk 36 (by decide)).1.trans (sk36 h)⟩, ⟨(hk 1 (by decide)).2.trans (sn1 h), (hk 3 (by decide)).2.trans (sn3 h), (hk 4 (by decide)).2.trans (sn4 h), (hk 5 (by decide)).2.trans (sn5 h), (hk 6 (by decide)).2.trans (sn6 h), (hk 7 (by decide)).2.trans (sn7 h), (hk 8 (by decide)).2.trans (sn8 h), (hk 9 (by decide)).2.trans (sn9 h), (hk 10 (by decide)).2.trans (sn10 h), (hk 11 (by decide)).2.trans (sn11 h), (hk 13 (by decide)).2.trans (sn13 h), (hk 14 (by decide)).2.trans (sn14 h), (hk 15 (by decide)).2.trans (sn15 h), (hk 16 (by decide)).2.trans (sn16 h), (hk 17 (by decide)).2.trans (sn17 h), (hk 18 (by decide)).2.trans (sn18 h), (hk 19 (by decide)).2.trans (sn19 h), (hk 20 (by decide)).2.trans (sn20 h), (hk 21 (by decide)).2.trans (sn21 h), (hk 22 (by decide)).2.trans (sn22 h), (hk 23 (by decide)).2.trans (sn23 h), (hk 24 (by decide)).2.trans (sn24 h), (hk 25 (by decide)).2.trans (sn25 h), (hk 26 (by decide)).2.trans (sn26 h), (hk 27 (by decide)).2.trans (sn27 h), (hk 28 (by decide)).2.trans (sn28 h), (hk 29 (by decide)).2.trans (sn29 h), (hk 30 (by decide)).2.trans (sn30 h), (hk 31 (by decide)).2.trans (sn31 h), (hk 32 (by decide)).2.trans (sn32 h), (hk 33 (by decide)).2.trans (sn33 h), (hk 34 (by decide)).2.trans (sn34 h), (hk 35 (by decide)).2.trans (sn35 h), (hk 36 (by decide)).2.trans (sn36 h)⟩, ⟨hr 0 0 _ (by decide) (by decide) (by decide) (sp0_0 h), hr 0 1 _ (by decide) (by decide) (by decide) (sp0_1 h), hr 0 2 _ (by decide) (by decide) (by decide) (sp0_2 h), hr 0 9 _ (by decide) (by decide) (by decide) (sp0_9 h), hr 0 10 _ (by decide) (by decide) (by decide) (sp0_10 h), hr 2 0 _ (by decide) (by decide) (by decide) (sp2_0 h), hr 2 1 _ (by decide) (by decide) (by decide) (sp2_1 h), hr 6 0 _ (by decide) (by decide) (by decide) (sp6_0 h), hr 6 1 _ (by decide) (by decide) (by decide) (sp6_1 h), hr 6 2 _ (by decide) (by decide) (by decide) (sp6_2 h), hr 6 3 _ (by decide) (by decide) (by decide) (sp6_3 h), hr 12 1 _ (by decide) (by decide) (by decide) (sp12_1 h), hr 12 2 _ (by decide) (by decide) (by decide) (sp12_2 h), hr 12 3 _ (by decide) (by decide) (by decide) (sp12_3 h), hr 12 4 _ (by decide) (by decide) (by decide) (sp12_4 h), hr 12 6 _ (by decide) (by decide) (by decide) (sp12_6 h), hr 12 8 _ (by decide) (by decide) (by decide) (sp12_8 h), hr 12 9 _ (by decide) (by decide) (by decide) (sp12_9 h), hr 12 10 _ (by decide) (by decide) (by decide) (sp12_10 h), hr 12 11 _ (by decide) (by decide) (by decide) (sp12_11 h), hr 12 12 _ (by decide) (by decide) (by decide) (sp12_12 h), hr 12 13 _ (by decide) (by decide) (by decide) (sp12_13 h), hr 12 14 _ (by decide) (by decide) (by decide) (sp12_14 h), hr 12 15 _ (by decide) (by decide) (by decide) (sp12_15 h), hr 12 23 _ (by decide) (by decide) (by decide) (sp12_23 h), hr 12 24 _ (by decide) (by decide) (by decide) (sp12_24 h), hr 12 25 _ (by decide) (by decide) (by decide) (sp12_25 h), hr 12 26 _ (by decide) (by decide) (by decide) (sp12_26 h), hr 12 27 _ (by decide) (by decide) (by decide) (sp12_27 h), hr 12 29 _ (by decide) (by decide) (by decide) (sp12_29 h), hr 12 30 _ (by decide) (by decide) (by decide) (sp12_30 h), hr 12 31 _ (by decide) (by decide) (by decide) (sp12_31 h), hr 12 32 _ (by decide) (by decide) (by decide) (sp12_32 h), hr 12 33 _ (by decide) (by decide) (by decide) (sp12_33 h)⟩⟩
theorem SL_setR {X : Nat} {m : Mem} {a k : Nat} {v : Option Nat} (h : SL X m) (ha : (a = X ∧ (k = 7 ∨ k = 8)) ∨ a = X + 5 ∨ X + 37 ≤ a) : SL X (setR m a k v) := by
  refine SL_eq h (Nat.le_refl _) (fun j _ => ⟨rfl, rfl⟩) (fun j k2 b hj h5 h0 hr => ?_)
  rw [mR_setR, if_neg (by intro q; obtain ⟨q1, q2⟩ := q; omega)]
  exact hr
theorem SL_allo {X : Nat} {m : Mem} {t n : Nat} (h : SL X m) : SL X (allo m t n) := by
  have h0 := h.1
  refine SL_eq h (by rw [mS_allo]; omega) (fun j hj => ⟨by rw [mK_allo, if_neg (by omega)], by rw [mN_allo, if_neg (by omega)]⟩) (fun j k2 b hj h5 h9 hr => ?_)
  rw [mR_allo, if_neg (by omega)]
  exact hr
theorem SL_reS {X : Nat} {m : Mem} {n : Nat} (h : SL X m) (hn : mS m ≤ n) : SL X (reS m n) := ⟨Nat.le_trans h.1 hn, h.2⟩
