def xno : Nat → Option Nat := fun _ => none
def xg_ring : Nat → Option Nat := fun k => if k < 16 then some (61 + 10 * k) else none
def xg_lone : Nat → Option Nat := fun k => if k < 1 then some 221 else none
def xg_sus : Nat → Option Nat := fun k => if k < 4 then some (23 + 5 * k) else none
def xg_tap : Nat → Option Nat := fun k => if k < 6 then some (43 + 3 * k) else none
def shC : List xSh := [.inl (8, [some 1, some 231, some 9, some 11, some 13, some 17, some 20, some 21, some 22, none, none, none, none, none, none]), .inl (0, [none, none, none, none, none, none, some 2, some 3, some 4, some 5, some 6, some 7, some 8]), .inr (0, 100, xno), .inr (0, 100, xno), .inr (0, 100, xno), .inr (0, 100, xno), .inr (0, 400, xno), .inr (0, 8, xno), .inr (0, 16, xno), .inl (4, [some 10]), .inr (4, 16, xg_ring), .inl (4, [some 12]), .inr (4, 1, xg_lone), .inl (2, [some 14, some 15, some 16]), .inr (0, 2000, xno), .inr (1, 2000, xno), .inr (1, 2000, xno), .inl (1, [none, none, none, none, some 18, some 19]), .inr (0, 256, xno), .inr (0, 32, xno), .inr (5, 4, xg_sus), .inr (6, 6, xg_tap), .inr (0, 4, xno), .inl (6, [some 24, some 26, none, none, none, none]), .inl (3, [some 25, none, none, none]), .inr (0, 65, xno), .inl (3, [some 27, none, none, none]), .inr (0, 65, xno), .inl (6, [some 29, some 31, none, none, none, none]), .inl (3, [some 30, none, none, none]), .inr (0, 65, xno), .inl (3, [some 32, none, none, none]), .inr (0, 65, xno), .inl (6, [some 34, some 36, none, none, none, none]), .inl (3, [some 35, none, none, none]), .inr (0, 65, xno), .inl (3, [some 37, none, none, none]), .inr (0, 65, xno), .inl (6, [some 39, some 41, none, none, none, none]), .inl (3, [some 40, none, none, none]), .inr (0, 65, xno), .inl (3, [some 42, none, none, none]), .inr (0, 65, xno), .inl (7, [none, none, none, some 44, some 45]), .inr (3, 80, xno), .inr (0, 100, xno), .inl (7, [none, none, none, some 47, some 48]), .inr (3, 80, xno), .inr (0, 100, xno), .inl (7, [none, none, none, some 50, some 51]), .inr (3, 80, xno), .inr (0, 100, xno), .inl (7, [none, none, none, some 53, some 54]), .inr (3, 80, xno), .inr (0, 100, xno), .inl (7, [none, none, none, some 56, some 57]), .inr (3, 80, xno), .inr (0, 100, xno), .inl (7, [none, none, none, some 59, some 60]), .inr (3, 80, xno), .inr (0, 100, xno), .inl (5, [some 1, some 62, some 63, some 64, some 65, some 66, some 67, some 68, some 69, some 70]), .inr (0, 16, xno), .inr (0, 16, xno), .inr (0, 16, xno), .inr (0, 4, xno), .inr (0, 4, xno), .inr (0, 4, xno), .inr (0, 4, xno), .inr (0, 4, xno), .inr (0, 8, xno), .inl (5, [some 1, some 72, some 73, some 74, some 75, some 76, some 77, some 78, some 79, some 80]), .inr (0, 16, xno), .inr (0, 16, xno), .inr (0, 16, xno), .inr (0, 4, xno), .inr (0, 4, xno), .inr (0, 4, xno), .inr (0, 4, xno), .inr (0, 4, xno), .inr (0, 8, xno), .inl (5, [some 1, some 82, some 83, some 84, some 85, some 86, some 87, some 88, some 89, some 90]), .inr (0, 16, xno), .inr (0, 16, xno), .inr (0, 16, xno), .inr (0, 4, xno), .inr (0, 4, xno), .inr (0, 4, xno), .inr (0, 4, xno), .inr (0, 4, xno), .inr (0, 8, xno), .inl (5, [some 1, some 92, some 93, some 94, some 95, some 96, some 97, some 98, some 99, some 100]), .inr (0, 16, xno), .inr (0, 16, xno), .inr (0, 16, xno), .inr (0, 4, xno), .inr (0, 4, xno), .inr (0, 4, xno), .inr (0, 4, xno), .inr (0, 4, xno), .inr (0, 8, xno), .inl (5, [some 1, some 102, some 103, some 104, some 105, some 106, some 107, some 108, some 109, some 110]), .inr (0, 16, xno), .inr (0, 16, xno), .inr (0, 16, xno), .inr (0, 4, xno), .inr (0, 4, xno), .inr (0, 4, xno), .inr (0, 4, xno), .inr (0, 4, xno), .inr (0, 8, xno), .inl (5, [some 1, some 112, some 113, some 114, some 115, some 116, some 117, some 118, some 119, some 120]), .inr (0, 16, xno), .inr (0, 16, xno), .inr (0, 16, xno), .inr (0, 4, xno), .inr (0, 4, xno), .inr (0, 4, xno), .inr (0, 4, xno), .inr (0, 4, xno), .inr (0, 8, xno), .inl (5, [some 1, some 122, some 123, some 124, some 125, some 126, some 127, some 128, some 129, some 130]), .inr (0, 16, xno), .inr (0, 16, xno), .inr (0, 16, xno), .inr (0, 4, xno), .inr (0, 4, xno), .inr (0, 4, xno), .inr (0, 4, xno), .inr (0, 4, xno), .inr (0, 8, xno), .inl (5, [some 1, some 132, some 133, some 134, some 135, some 136, some 137, some 138, some 139, some 140]), .inr (0, 16, xno), .inr (0, 16, xno), .inr (0, 16, xno), .inr (0, 4, xno), .inr (0, 4, xno), .inr (0, 4, xno), .inr (0, 4, xno), .inr (0, 4, xno), .inr (0, 8, xno), .inl (5, [some 1, some 142, some 143, some 144, some 145, some 146, some 147, some 148, some 149, some 150]), .inr (0, 16, xno), .inr (0, 16, xno), .inr (0, 16, xno), .inr (0, 4, xno), .inr (0, 4, xno), .inr (0, 4, xno), .inr (0, 4, xno), .inr (0, 4, xno), .inr (0, 8, xno), .inl (5, [some 1, some 152, some 153, some 154, some 155, some 156, some 157, some 158, some 159, some 160]), .inr (0, 16, xno), .inr (0, 16, xno), .inr (0, 16, xno), .inr (0, 4, xno), .inr (0, 4, xno), .inr (0, 4, xno), .inr (0, 4, xno), .inr (0, 4, xno), .inr (0, 8, xno), .inl (5, [some 1, some 162, some 163, some 164, some 165, some 166, some 167, some 168, some 169, some 170]), .inr (0, 16, xno), .inr (0, 16, xno), .inr (0, 16, xno), .inr (0, 4, xno), .inr (0, 4, xno), .inr (0, 4, xno), .inr (0, 4, xno), .inr (0, 4, xno), .inr (0, 8, xno), .inl (5, [some 1, some 172, some 173, some 174, some 175, some 176, some 177, some 178, some 179, some 180]), .inr (0, 16, xno), .inr (0, 16, xno), .inr (0, 16, xno), .inr (0, 4, xno), .inr (0, 4, xno), .inr (0, 4, xno), .inr (0, 4, xno), .inr (0, 4, xno), .inr (0, 8, xno), .inl (5, [some 1, some 182, some 183, some 184, some 185, some 186, some 187, some 188, some 189, some 190]), .inr (0, 16, xno), .inr (0, 16, xno), .inr (0, 16, xno), .inr (0, 4, xno), .inr (0, 4, xno), .inr (0, 4, xno), .inr (0, 4, xno), .inr (0, 4, xno), .inr (0, 8, xno), .inl (5, [some 1, some 192, some 193, some 194, some 195, some 196, some 197, some 198, some 199, some 200]), .inr (0, 16, xno), .inr (0, 16, xno), .inr (0, 16, xno), .inr (0, 4, xno), .inr (0, 4, xno), .inr (0, 4, xno), .inr (0, 4, xno), .inr (0, 4, xno), .inr (0, 8, xno), .inl (5, [some 1, some 202, some 203, some 204, some 205, some 206, some 207, some 208, some 209, some 210]), .inr (0, 16, xno), .inr (0, 16, xno), .inr (0, 16, xno), .inr (0, 4, xno), .inr (0, 4, xno), .inr (0, 4, xno), .inr (0, 4, xno), .inr (0, 4, xno), .inr (0, 8, xno), .inl (5, [some 1, some 212, some 213, some 214, some 215, some 216, some 217, some 218, some 219, some 220]), .inr (0, 16, xno), .inr (0, 16, xno), .inr (0, 16, xno), .inr (0, 4, xno), .inr (0, 4, xno), .inr (0, 4, xno), .inr (0, 4, xno), .inr (0, 4, xno), .inr (0, 8, xno), .inl (5, [some 1, some 222, some 223, some 224, some 225, some 226, some 227, some 228, some 229, some 230]), .inr (0, 16, xno), .inr (0, 16, xno), .inr (0, 16, xno), .inr (0, 4, xno), .inr (0, 4, xno), .inr (0, 4, xno), .inr (0, 4, xno), .inr (0, 4, xno), .inr (0, 8, xno), .inl (5, [some 1, some 232, some 233, some 234, some 235, some 236, some 237, some 238, some 239, some 240]), .inr (0, 16, xno), .inr (0, 16, xno), .inr (0, 16, xno), .inr (0, 4, xno), .inr (0, 4, xno), .inr (0, 4, xno), .inr (0, 4, xno), .inr (0, 4, xno), .inr (0, 8, xno)]
def shM : List xSh := [.inl (9, [none, none, none, none, some 1, some 2, none, some 3, none, some 4, none, none, none, some 5, some 6, some 7, some 8, some 9, none, none, none, none, none, none, none, some 10, some 11, some 12, some 13, some 14, some 15, some 16, some 17, some 18, some 19, some 20, some 21, some 22]), .inr (0, 100, xno), .inr (0, 100, xno), .inr (0, 8, xno), .inr (0, 16, xno), .inr (0, 56112, xno), .inr (0, 2000, xno), .inr (2, 2000, xno), .inr (0, 2000, xno), .inr (0, 4, xno), .inr (0, 256, xno), .inr (0, 2000, xno), .inr (0, 8, xno), .inr (0, 8, xno), .inr (0, 8, xno), .inr (3, 520, xno), .inr (0, 4, xno), .inr (0, 4, xno), .inr (0, 6, xno), .inr (0, 6, xno), .inr (0, 6, xno), .inr (3, 600, xno), .inr (3, 100, xno)]
theorem cc0 : shC[0]? = some (.inl (8, [some 1, some 231, some 9, some 11, some 13, some 17, some 20, some 21, some 22, none, none, none, none, none, none])) := rfl
theorem cc1 : shC[1]? = some (.inl (0, [none, none, none, none, none, none, some 2, some 3, some 4, some 5, some 6, some 7, some 8])) := rfl
theorem cc2 : shC[2]? = some (.inr (0, 100, xno)) := rfl
theorem cc3 : shC[3]? = some (.inr (0, 100, xno)) := rfl
theorem cc4 : shC[4]? = some (.inr (0, 100, xno)) := rfl
theorem cc5 : shC[5]? = some (.inr (0, 100, xno)) := rfl
theorem cc6 : shC[6]? = some (.inr (0, 400, xno)) := rfl
theorem cc7 : shC[7]? = some (.inr (0, 8, xno)) := rfl
theorem cc8 : shC[8]? = some (.inr (0, 16, xno)) := rfl
theorem cc9 : shC[9]? = some (.inl (4, [some 10])) := rfl
theorem cc10 : shC[10]? = some (.inr (4, 16, xg_ring)) := rfl
theorem cc11 : shC[11]? = some (.inl (4, [some 12])) := rfl
theorem cc12 : shC[12]? = some (.inr (4, 1, xg_lone)) := rfl
theorem cc13 : shC[13]? = some (.inl (2, [some 14, some 15, some 16])) := rfl
theorem cc14 : shC[14]? = some (.inr (0, 2000, xno)) := rfl
theorem cc15 : shC[15]? = some (.inr (1, 2000, xno)) := rfl
theorem cc16 : shC[16]? = some (.inr (1, 2000, xno)) := rfl
theorem cc17 : shC[17]? = some (.inl (1, [none, none, none, none, some 18, some 19])) := rfl
theorem cc18 : shC[18]? = some (.inr (0, 256, xno)) := rfl
theorem cc19 : shC[19]? = some (.inr (0, 32, xno)) := rfl
theorem cc20 : shC[20]? = some (.inr (5, 4, xg_sus)) := rfl
theorem cc21 : shC[21]? = some (.inr (6, 6, xg_tap)) := rfl
theorem cc22 : shC[22]? = some (.inr (0, 4, xno)) := rfl
theorem mm0 : shM[0]? = some (.inl (9, [none, none, none, none, some 1, some 2, none, some 3, none, some 4, none, none, none, some 5, some 6, some 7, some 8, some 9, none, none, none, none, none, none, none, some 10, some 11, some 12, some 13, some 14, some 15, some 16, some 17, some 18, some 19, some 20, some 21, some 22])) := rfl
theorem mm1 : shM[1]? = some (.inr (0, 100, xno)) := rfl
theorem mm2 : shM[2]? = some (.inr (0, 100, xno)) := rfl
theorem mm3 : shM[3]? = some (.inr (0, 8, xno)) := rfl
theorem mm4 : shM[4]? = some (.inr (0, 16, xno)) := rfl
theorem mm5 : shM[5]? = some (.inr (0, 56112, xno)) := rfl
theorem mm6 : shM[6]? = some (.inr (0, 2000, xno)) := rfl
theorem mm7 : shM[7]? = some (.inr (2, 2000, xno)) := rfl
theorem mm8 : shM[8]? = some (.inr (0, 2000, xno)) := rfl
theorem mm9 : shM[9]? = some (.inr (0, 4, xno)) := rfl
theorem mm10 : shM[10]? = some (.inr (0, 256, xno)) := rfl
theorem mm11 : shM[11]? = some (.inr (0, 2000, xno)) := rfl
theorem mm12 : shM[12]? = some (.inr (0, 8, xno)) := rfl
theorem mm13 : shM[13]? = some (.inr (0, 8, xno)) := rfl
theorem mm14 : shM[14]? = some (.inr (0, 8, xno)) := rfl
theorem mm15 : shM[15]? = some (.inr (3, 520, xno)) := rfl
theorem mm16 : shM[16]? = some (.inr (0, 4, xno)) := rfl
theorem mm17 : shM[17]? = some (.inr (0, 4, xno)) := rfl
theorem mm18 : shM[18]? = some (.inr (0, 6, xno)) := rfl
theorem mm19 : shM[19]? = some (.inr (0, 6, xno)) := rfl
theorem mm20 : shM[20]? = some (.inr (0, 6, xno)) := rfl
theorem mm21 : shM[21]? = some (.inr (3, 600, xno)) := rfl
theorem mm22 : shM[22]? = some (.inr (3, 100, xno)) := rfl
def isSt (r : Nat) : Prop := ∃ j : Nat, j < 18 ∧ r = 61 + 10 * j
def isSu (r : Nat) : Prop := ∃ j : Nat, j < 4 ∧ r = 23 + 5 * j
def isOd (r : Nat) : Prop := ∃ j : Nat, j < 8 ∧ r = 24 + 5 * (j / 2) + 2 * (j % 2)
def isTp (r : Nat) : Prop := ∃ j : Nat, j < 6 ∧ r = 43 + 3 * j
theorem so {r : Nat} (h : isSt r) : shC[r]? = some (.inl (5, [some 1, some (r + 1), some (r + 2), some (r + 3), some (r + 4), some (r + 5), some (r + 6), some (r + 7), some (r + 8), some (r + 9)])) := by
  obtain ⟨j, hj, rfl⟩ := h
  exact match j, hj with
  | 0, _ => rfl
  | 1, _ => rfl
  | 2, _ => rfl
  | 3, _ => rfl
  | 4, _ => rfl
  | 5, _ => rfl
  | 6, _ => rfl
  | 7, _ => rfl
  | 8, _ => rfl
  | 9, _ => rfl
  | 10, _ => rfl
  | 11, _ => rfl
  | 12, _ => rfl
  | 13, _ => rfl
  | 14, _ => rfl
  | 15, _ => rfl
  | 16, _ => rfl
  | 17, _ => rfl
  | j + 18, h => absurd h (by omega)
theorem sa1 {r : Nat} (h : isSt r) : shC[r + 1]? = some (.inr (0, 16, xno)) := by
  obtain ⟨j, hj, rfl⟩ := h
  exact match j, hj with
  | 0, _ => rfl
  | 1, _ => rfl
  | 2, _ => rfl
  | 3, _ => rfl
  | 4, _ => rfl
  | 5, _ => rfl
  | 6, _ => rfl
  | 7, _ => rfl
  | 8, _ => rfl
  | 9, _ => rfl
  | 10, _ => rfl
  | 11, _ => rfl
  | 12, _ => rfl
  | 13, _ => rfl
  | 14, _ => rfl
  | 15, _ => rfl
  | 16, _ => rfl
  | 17, _ => rfl
  | j + 18, h => absurd h (by omega)
theorem sa2 {r : Nat} (h : isSt r) : shC[r + 2]? = some (.inr (0, 16, xno)) := by
  obtain ⟨j, hj, rfl⟩ := h
  exact match j, hj with
  | 0, _ => rfl
  | 1, _ => rfl
  | 2, _ => rfl
  | 3, _ => rfl
  | 4, _ => rfl
  | 5, _ => rfl
  | 6, _ => rfl
  | 7, _ => rfl
  | 8, _ => rfl
  | 9, _ => rfl
  | 10, _ => rfl
  | 11, _ => rfl
  | 12, _ => rfl
  | 13, _ => rfl
  | 14, _ => rfl
  | 15, _ => rfl
  | 16, _ => rfl
  | 17, _ => rfl
  | j + 18, h => absurd h (by omega)
theorem sa3 {r : Nat} (h : isSt r) : shC[r + 3]? = some (.inr (0, 16, xno)) := by
  obtain ⟨j, hj, rfl⟩ := h
  exact match j, hj with
  | 0, _ => rfl
  | 1, _ => rfl
  | 2, _ => rfl
  | 3, _ => rfl
  | 4, _ => rfl
  | 5, _ => rfl
  | 6, _ => rfl
  | 7, _ => rfl
  | 8, _ => rfl
  | 9, _ => rfl
  | 10, _ => rfl
  | 11, _ => rfl
  | 12, _ => rfl
  | 13, _ => rfl
  | 14, _ => rfl
  | 15, _ => rfl
  | 16, _ => rfl
  | 17, _ => rfl
  | j + 18, h => absurd h (by omega)
theorem sa4 {r : Nat} (h : isSt r) : shC[r + 4]? = some (.inr (0, 4, xno)) := by
  obtain ⟨j, hj, rfl⟩ := h
  exact match j, hj with
  | 0, _ => rfl
  | 1, _ => rfl
  | 2, _ => rfl
  | 3, _ => rfl
  | 4, _ => rfl
  | 5, _ => rfl
  | 6, _ => rfl
  | 7, _ => rfl
  | 8, _ => rfl
  | 9, _ => rfl
  | 10, _ => rfl
  | 11, _ => rfl
  | 12, _ => rfl
  | 13, _ => rfl
  | 14, _ => rfl
  | 15, _ => rfl
  | 16, _ => rfl
  | 17, _ => rfl
  | j + 18, h => absurd h (by omega)
theorem sa5 {r : Nat} (h : isSt r) : shC[r + 5]? = some (.inr (0, 4, xno)) := by
  obtain ⟨j, hj, rfl⟩ := h
  exact match j, hj with
  | 0, _ => rfl
  | 1, _ => rfl
  | 2, _ => rfl
  | 3, _ => rfl
  | 4, _ => rfl
  | 5, _ => rfl
  | 6, _ => rfl
  | 7, _ => rfl
  | 8, _ => rfl
  | 9, _ => rfl
  | 10, _ => rfl
  | 11, _ => rfl
  | 12, _ => rfl
  | 13, _ => rfl
  | 14, _ => rfl
  | 15, _ => rfl
  | 16, _ => rfl
  | 17, _ => rfl
  | j + 18, h => absurd h (by omega)
theorem sa6 {r : Nat} (h : isSt r) : shC[r + 6]? = some (.inr (0, 4, xno)) := by
  obtain ⟨j, hj, rfl⟩ := h
  exact match j, hj with
  | 0, _ => rfl
  | 1, _ => rfl
  | 2, _ => rfl
  | 3, _ => rfl
  | 4, _ => rfl
  | 5, _ => rfl
  | 6, _ => rfl
  | 7, _ => rfl
  | 8, _ => rfl
  | 9, _ => rfl
  | 10, _ => rfl
  | 11, _ => rfl
  | 12, _ => rfl
  | 13, _ => rfl
  | 14, _ => rfl
  | 15, _ => rfl
  | 16, _ => rfl
  | 17, _ => rfl
  | j + 18, h => absurd h (by omega)
theorem sa7 {r : Nat} (h : isSt r) : shC[r + 7]? = some (.inr (0, 4, xno)) := by
  obtain ⟨j, hj, rfl⟩ := h
  exact match j, hj with
  | 0, _ => rfl
  | 1, _ => rfl
  | 2, _ => rfl
  | 3, _ => rfl
  | 4, _ => rfl
  | 5, _ => rfl
  | 6, _ => rfl
  | 7, _ => rfl
  | 8, _ => rfl
  | 9, _ => rfl
  | 10, _ => rfl
  | 11, _ => rfl
  | 12, _ => rfl
  | 13, _ => rfl
  | 14, _ => rfl
  | 15, _ => rfl
  | 16, _ => rfl
  | 17, _ => rfl
  | j + 18, h => absurd h (by omega)
theorem sa8 {r : Nat} (h : isSt r) : shC[r + 8]? = some (.inr (0, 4, xno)) := by
  obtain ⟨j, hj, rfl⟩ := h
  exact match j, hj with
  | 0, _ => rfl
  | 1, _ => rfl
  | 2, _ => rfl
  | 3, _ => rfl
  | 4, _ => rfl
  | 5, _ => rfl
  | 6, _ => rfl
  | 7, _ => rfl
  | 8, _ => rfl
  | 9, _ => rfl
  | 10, _ => rfl
  | 11, _ => rfl
  | 12, _ => rfl
  | 13, _ => rfl
  | 14, _ => rfl
  | 15, _ => rfl
  | 16, _ => rfl
  | 17, _ => rfl
  | j + 18, h => absurd h (by omega)
theorem sa9 {r : Nat} (h : isSt r) : shC[r + 9]? = some (.inr (0, 8, xno)) := by
  obtain ⟨j, hj, rfl⟩ := h
  exact match j, hj with
  | 0, _ => rfl
  | 1, _ => rfl
  | 2, _ => rfl
  | 3, _ => rfl
  | 4, _ => rfl
  | 5, _ => rfl
  | 6, _ => rfl
  | 7, _ => rfl
  | 8, _ => rfl
  | 9, _ => rfl
  | 10, _ => rfl
  | 11, _ => rfl
  | 12, _ => rfl
  | 13, _ => rfl
  | 14, _ => rfl
  | 15, _ => rfl
  | 16, _ => rfl
  | 17, _ => rfl
  | j + 18, h => absurd h (by omega)
theorem suo {r : Nat} (h : isSu r) : shC[r]? = some (.inl (6, [some (r + 1), some (r + 3), none, none, none, none])) := by
  obtain ⟨j, hj, rfl⟩ := h
  exact match j, hj with
  | 0, _ => rfl
  | 1, _ => rfl
  | 2, _ => rfl
  | 3, _ => rfl
  | j + 4, h => absurd h (by omega)
theorem odo {r : Nat} (h : isOd r) : shC[r]? = some (.inl (3, [some (r + 1), none, none, none])) := by
  obtain ⟨j, hj, rfl⟩ := h
  exact match j, hj with
  | 0, _ => rfl
  | 1, _ => rfl
  | 2, _ => rfl
  | 3, _ => rfl
  | 4, _ => rfl
  | 5, _ => rfl
  | 6, _ => rfl
  | 7, _ => rfl
  | j + 8, h => absurd h (by omega)
theorem oda {r : Nat} (h : isOd r) : shC[r + 1]? = some (.inr (0, 65, xno)) := by
  obtain ⟨j, hj, rfl⟩ := h
  exact match j, hj with
  | 0, _ => rfl
  | 1, _ => rfl
  | 2, _ => rfl
  | 3, _ => rfl
  | 4, _ => rfl
  | 5, _ => rfl
  | 6, _ => rfl
  | 7, _ => rfl
  | j + 8, h => absurd h (by omega)
theorem tpo {r : Nat} (h : isTp r) : shC[r]? = some (.inl (7, [none, none, none, some (r + 1), some (r + 2)])) := by
  obtain ⟨j, hj, rfl⟩ := h
  exact match j, hj with
  | 0, _ => rfl
  | 1, _ => rfl
  | 2, _ => rfl
  | 3, _ => rfl
  | 4, _ => rfl
  | 5, _ => rfl
  | j + 6, h => absurd h (by omega)
theorem tpa {r : Nat} (h : isTp r) : shC[r + 1]? = some (.inr (3, 80, xno)) := by
  obtain ⟨j, hj, rfl⟩ := h
  exact match j, hj with
  | 0, _ => rfl
  | 1, _ => rfl
  | 2, _ => rfl
  | 3, _ => rfl
  | 4, _ => rfl
  | 5, _ => rfl
  | j + 6, h => absurd h (by omega)
theorem tpb {r : Nat} (h : isTp r) : shC[r + 2]? = some (.inr (0, 100, xno)) := by
  obtain ⟨j, hj, rfl⟩ := h
  exact match j, hj with
  | 0, _ => rfl
  | 1, _ => rfl
  | 2, _ => rfl
  | 3, _ => rfl
  | 4, _ => rfl
  | 5, _ => rfl
  | j + 6, h => absurd h (by omega)
