def zWd (fw : Nat → Int32) : Prop := fw 0 = 108 ∧ fw 1 = 97 ∧ fw 2 = 110 ∧ fw 3 = 100 ∧ fw 4 = 32 ∧ fw 5 = 102 ∧ fw 6 = 101 ∧ fw 7 = 97 ∧ fw 8 = 115 ∧ fw 9 = 116 ∧ fw 10 = 32 ∧ fw 11 = 112 ∧ fw 12 = 101 ∧ fw 13 = 114 ∧ fw 14 = 115 ∧ fw 15 = 111 ∧ fw 16 = 110 ∧ fw 17 = 32 ∧ fw 18 = 100 ∧ fw 19 = 101 ∧ fw 20 = 101 ∧ fw 21 = 100 ∧ fw 22 = 32 ∧ fw 23 = 110 ∧ fw 24 = 111 ∧ fw 25 = 116 ∧ fw 26 = 101 ∧ fw 27 = 32 ∧ fw 28 = 115 ∧ fw 29 = 117 ∧ fw 30 = 110 ∧ fw 31 = 32 ∧ fw 32 = 119 ∧ fw 33 = 101 ∧ fw 34 = 101 ∧ fw 35 = 107 ∧ fw 36 = 32 ∧ fw 37 = 109 ∧ fw 38 = 111 ∧ fw 39 = 111 ∧ fw 40 = 110 ∧ fw 41 = 32 ∧ fw 42 = 102 ∧ fw 43 = 114 ∧ fw 44 = 111 ∧ fw 45 = 109 ∧ fw 46 = 32 ∧ fw 47 = 100 ∧ fw 48 = 105 ∧ fw 49 = 101 ∧ fw 50 = 100 ∧ fw 51 = 32 ∧ fw 52 = 121 ∧ fw 53 = 101 ∧ fw 54 = 97 ∧ fw 55 = 114 ∧ fw 56 = 115 ∧ fw 57 = 32 ∧ fw 58 = 100 ∧ fw 59 = 97 ∧ fw 60 = 121 ∧ fw 61 = 115 ∧ fw 62 = 32 ∧ fw 63 = 116 ∧ fw 64 = 105 ∧ fw 65 = 108 ∧ fw 66 = 108 ∧ fw 67 = 32 ∧ fw 68 = 112 ∧ fw 69 = 97 ∧ fw 70 = 121 ∧ fw 71 = 32 ∧ fw 72 = 97 ∧ fw 73 = 108 ∧ fw 74 = 105 ∧ fw 75 = 118 ∧ fw 76 = 101 ∧ fw 77 = 32 ∧ fw 78 = 97 ∧ fw 79 = 102 ∧ fw 80 = 116 ∧ fw 81 = 101 ∧ fw 82 = 114 ∧ fw 83 = 32 ∧ fw 84 = 97 ∧ fw 85 = 110 ∧ fw 86 = 100 ∧ fw 87 = 32 ∧ fw 88 = 111 ∧ fw 89 = 114 ∧ fw 90 = 32 ∧ fw 91 = 110 ∧ fw 92 = 111 ∧ fw 93 = 116 ∧ fw 94 = 32 ∧ fw 95 = 100 ∧ fw 96 = 97 ∧ fw 97 = 121 ∧ fw 98 = 32 ∧ fw 99 = 121 ∧ fw 100 = 101 ∧ fw 101 = 97 ∧ fw 102 = 114 ∧ fw 103 = 32 ∧ fw 104 = 115 ∧ fw 105 = 101 ∧ fw 106 = 97 ∧ fw 107 = 115 ∧ fw 108 = 111 ∧ fw 109 = 110 ∧ fw 110 = 32 ∧ fw 111 = 108 ∧ fw 112 = 101 ∧ fw 113 = 110 ∧ fw 114 = 103 ∧ fw 115 = 116 ∧ fw 116 = 104 ∧ fw 117 = 32
theorem zW0 {fw : Nat → Int32} (h : zWd fw) : fw 0 = 108 := h.1
theorem zW1 {fw : Nat → Int32} (h : zWd fw) : fw 1 = 97 := h.2.1
theorem zW2 {fw : Nat → Int32} (h : zWd fw) : fw 2 = 110 := h.2.2.1
theorem zW3 {fw : Nat → Int32} (h : zWd fw) : fw 3 = 100 := h.2.2.2.1
theorem zW4 {fw : Nat → Int32} (h : zWd fw) : fw 4 = 32 := h.2.2.2.2.1
theorem zW5 {fw : Nat → Int32} (h : zWd fw) : fw 5 = 102 := h.2.2.2.2.2.1
theorem zW6 {fw : Nat → Int32} (h : zWd fw) : fw 6 = 101 := h.2.2.2.2.2.2.1
theorem zW7 {fw : Nat → Int32} (h : zWd fw) : fw 7 = 97 := h.2.2.2.2.2.2.2.1
theorem zW8 {fw : Nat → Int32} (h : zWd fw) : fw 8 = 115 := h.2.2.2.2.2.2.2.2.1
theorem zW9 {fw : Nat → Int32} (h : zWd fw) : fw 9 = 116 := h.2.2.2.2.2.2.2.2.2.1
theorem zW10 {fw : Nat → Int32} (h : zWd fw) : fw 10 = 32 := h.2.2.2.2.2.2.2.2.2.2.1
theorem zW11 {fw : Nat → Int32} (h : zWd fw) : fw 11 = 112 := h.2.2.2.2.2.2.2.2.2.2.2.1
theorem zW12 {fw : Nat → Int32} (h : zWd fw) : fw 12 = 101 := h.2.2.2.2.2.2.2.2.2.2.2.2.1
theorem zW13 {fw : Nat → Int32} (h : zWd fw) : fw 13 = 114 := h.2.2.2.2.2.2.2.2.2.2.2.2.2.1
theorem zW14 {fw : Nat → Int32} (h : zWd fw) : fw 14 = 115 := h.2.2.2.2.2.2.2.2.2.2.2.2.2.2.1
theorem zW15 {fw : Nat → Int32} (h : zWd fw) : fw 15 = 111 := h.2.2.2.2.2.2.2.2.2.2.2.2.2.2.2.1
theorem zW16 {fw : Nat → Int32} (h : zWd fw) : fw 16 = 110 := h.2.2.2.2.2.2.2.2.2.2.2.2.2.2.2.2.1
theorem zW17 {fw : Nat → Int32} (h : zWd fw) : fw 17 = 32 := h.2.2.2.2.2.2.2.2.2.2.2.2.2.2.2.2.2.1
theorem zW18 {fw : Nat → Int32} (h : zWd fw) : fw 18 = 100 := h.2.2.2.2.2.2.2.2.2.2.2.2.2.2.2.2.2.2.1
theorem zW19 {fw : Nat → Int32} (h : zWd fw) : fw 19 = 101 := h.2.2.2.2.2.2.2.2.2.2.2.2.2.2.2.2.2.2.2.1
theorem zW20 {fw : Nat → Int32} (h : zWd fw) : fw 20 = 101 := h.2.2.2.2.2.2.2.2.2.2.2.2.2.2.2.2.2.2.2.2.1
theorem zW21 {fw : Nat → Int32} (h : zWd fw) : fw 21 = 100 := h.2.2.2.2.2.2.2.2.2.2.2.2.2.2.2.2.2.2.2.2.2.1
theorem zW22 {fw : Nat → Int32} (h : zWd fw) : fw 22 = 32 := h.2.2.2.2.2.2.2.2.2.2.2.2.2.2.2.2.2.2.2.2.2.2.1
theorem zW23 {fw : Nat → Int32} (h : zWd fw) : fw 23 = 110 := h.2.2.2.2.2.2.2.2.2.2.2.2.2.2.2.2.2.2.2.2.2.2.2.1
theorem zW24 {fw : Nat → Int32} (h : zWd fw) : fw 24 = 111 := h.2.2.2.2.2.2.2.2.2.2.2.2.2.2.2.2.2.2.2.2.2.2.2.2.1
theorem zW25 {fw : Nat → Int32} (h : zWd fw) : fw 25 = 116 := h.2.2.2.2.2.2.2.2.2.2.2.2.2.2.2.2.2.2.2.2.2.2.2.2.2.1
theorem zW26 {fw : Nat → Int32} (h : zWd fw) : fw 26 = 101 := h.2.2.2.2.2.2.2.2.2.2.2.2.2.2.2.2.2.2.2.2.2.2.2.2.2.2.1
theorem zW27 {fw : Nat → Int32} (h : zWd fw) : fw 27 = 32 := h.2.2.2.2.2.2.2.2.2.2.2.2.2.2.2.2.2.2.2.2.2.2.2.2.2.2.2.1
theorem zW28 {fw : Nat → Int32} (h : zWd fw) : fw 28 = 115 := h.2.2.2.2.2.2.2.2.2.2.2.2.2.2.2.2.2.2.2.2.2.2.2.2.2.2.2.2.1
theorem zW29 {fw : Nat → Int32} (h : zWd fw) : fw 29 = 117 := h.2.2.2.2.2.2.2.2.2.2.2.2.2.2.2.2.2.2.2.2.2.2.2.2.2.2.2.2.2.1
theorem zW30 {fw : Nat → Int32} (h : zWd fw) : fw 30 = 110 := h.2.2.2.2.2.2.2.2.2.2.2.2.2.2.2.2.2.2.2.2.2.2.2.2.2.2.2.2.2.2.1
theorem zW31 {fw : Nat → Int32} (h : zWd fw) : fw 31 = 32 := h.2.2.2.2.2.2.2.2.2.2.2.2.2.2.2.2.2.2.2.2.2.2.2.2.2.2.2.2.2.2.2.1
theorem zW32 {fw : Nat → Int32} (h : zWd fw) : fw 32 = 119 := h.2.2.2.2.2.2.2.2.2.2.2.2.2.2.2.2.2.2.2.2.2.2.2.2.2.2.2.2.2.2.2.2.1
theorem zW33 {fw : Nat → Int32} (h : zWd fw) : fw 33 = 101 := h.2.2.2.2.2.2.2.2.2.2.2.2.2.2.2.2.2.2.2.2.2.2.2.2.2.2.2.2.2.2.2.2.2.1
theorem zW34 {fw : Nat → Int32} (h : zWd fw) : fw 34 = 101 := h.2.2.2.2.2.2.2.2.2.2.2.2.2.2.2.2.2.2.2.2.2.2.2.2.2.2.2.2.2.2.2.2.2.2.1
theorem zW35 {fw : Nat → Int32} (h : zWd fw) : fw 35 = 107 := h.2.2.2.2.2.2.2.2.2.2.2.2.2.2.2.2.2.2.2.2.2.2.2.2.2.2.2.2.2.2.2.2.2.2.2.1
theorem zW36 {fw : Nat → Int32} (h : zWd fw) : fw 36 = 32 := h.2.2.2.2.2.2.2.2.2.2.2.2.2.2.2.2.2.2.2.2.2.2.2.2.2.2.2.2.2.2.2.2.2.2.2.2.1
theorem zW37 {fw : Nat → Int32} (h : zWd fw) : fw 37 = 109 := h.2.2.2.2.2.2.2.2.2.2.2.2.2.2.2.2.2.2.2.2.2.2.2.2.2.2.2.2.2.2.2.2.2.2.2.2.2.1
theorem zW38 {fw : Nat → Int32} (h : zWd fw) : fw 38 = 111 := h.2.2.2.2.2.2.2.2.2.2.2.2.2.2.2.2.2.2.2.2.2.2.2.2.2.2.2.2.2.2.2.2.2.2.2.2.2.2.1
theorem zW39 {fw : Nat → Int32} (h : zWd fw) : fw 39 = 111 := h.2.2.2.2.2.2.2.2.2.2.2.2.2.2.2.2.2.2.2.2.2.2.2.2.2.2.2.2.2.2.2.2.2.2.2.2.2.2.2.1
theorem zW40 {fw : Nat → Int32} (h : zWd fw) : fw 40 = 110 := h.2.2.2.2.2.2.2.2.2.2.2.2.2.2.2.2.2.2.2.2.2.2.2.2.2.2.2.2.2.2.2.2.2.2.2.2.2.2.2.2.1
theorem zW41 {fw : Nat → Int32} (h : zWd fw) : fw 41 = 32 := h.2.2.2.2.2.2.2.2.2.2.2.2.2.2.2.2.2.2.2.2.2.2.2.2.2.2.2.2.2.2.2.2.2.2.2.2.2.2.2.2.2.1
theorem zW42 {fw : Nat → Int32} (h : zWd fw) : fw 42 = 102 := h.2.2.2.2.2.2.2.2.2.2.2.2.2.2.2.2.2.2.2.2.2.2.2.2.2.2.2.2.2.2.2.2.2.2.2.2.2.2.2.2.2.2.1
theorem zW43 {fw : Nat → Int32} (h : zWd fw) : fw 43 = 114 := h.2.2.2.2.2.2.2.2.2.2.2.2.2.2.2.2.2.2.2.2.2.2.2.2.2.2.2.2.2.2.2.2.2.2.2.2.2.2.2.2.2.2.2.1
theorem zW44 {fw : Nat → Int32} (h : zWd fw) : fw 44 = 111 := h.2.2.2.2.2.2.2.2.2.2.2.2.2.2.2.2.2.2.2.2.2.2.2.2.2.2.2.2.2.2.2.2.2.2.2.2.2.2.2.2.2.2.2.2.1
theorem zW45 {fw : Nat → Int32} (h : zWd fw) : fw 45 = 109 := h.2.2.2.2.2.2.2.2.2.2.2.2.2.2.2.2.2.2.2.2.2.2.2.2.2.2.2.2.2.2.2.2.2.2.2.2.2.2.2.2.2.2.2.2.2.1
theorem zW46 {fw : Nat → Int32} (h : zWd fw) : fw 46 = 32 := h.2.2.2.2.2.2.2.2.2.2.2.2.2.2.2.2.2.2.2.2.2.2.2.2.2.2.2.2.2.2.2.2.2.2.2.2.2.2.2.2.2.2.2.2.2.2.1
theorem zW47 {fw : Nat → Int32} (h : zWd fw) : fw 47 = 100 := h.2.2.2.2.2.2.2.2.2.2.2.2.2.2.2.2.2.2.2.2.2.2.2.2.2.2.2.2.2.2.2.2.2.2.2.2.2.2.2.2.2.2.2.2.2.2.2.1
theorem zW48 {fw : Nat → Int32} (h : zWd fw) : fw 48 = 105 := h.2.2.2.2.2.2.2.2.2.2.2.2.2.2.2.2.2.2.2.2.2.2.2.2.2.2.2.2.2.2.2.2.2.2.2.2.2.2.2.2.2.2.2.2.2.2.2.2.1
theorem zW49 {fw : Nat → Int32} (h : zWd fw) : fw 49 = 101 := h.2.2.2.2.2.2.2.2.2.2.2.2.2.2.2.2.2.2.2.2.2.2.2.2.2.2.2.2.2.2.2.2.2.2.2.2.2.2.2.2.2.2.2.2.2.2.2.2.2.1
theorem zW50 {fw : Nat → Int32} (h : zWd fw) : fw 50 = 100 := h.2.2.2.2.2.2.2.2.2.2.2.2.2.2.2.2.2.2.2.2.2.2.2.2.2.2.2.2.2.2.2.2.2.2.2.2.2.2.2.2.2.2.2.2.2.2.2.2.2.2.1
theorem zW51 {fw : Nat → Int32} (h : zWd fw) : fw 51 = 32 := h.2.2.2.2.2.2.2.2.2.2.2.2.2.2.2.2.2.2.2.2.2.2.2.2.2.2.2.2.2.2.2.2.2.2.2.2.2.2.2.2.2.2.2.2.2.2.2.2.2.2.2.1
theorem zW52 {fw : Nat → Int32} (h : zWd fw) : fw 52 = 121 := h.2.2.2.2.2.2.2.2.2.2.2.2.2.2.2.2.2.2.2.2.2.2.2.2.2.2.2.2.2.2.2.2.2.2.2.2.2.2.2.2.2.2.2.2.2.2.2.2.2.2.2.2.1
theorem zW53 {fw : Nat → Int32} (h : zWd fw) : fw 53 = 101 := h.2.2.2.2.2.2.2.2.2.2.2.2.2.2.2.2.2.2.2.2.2.2.2.2.2.2.2.2.2.2.2.2.2.2.2.2.2.2.2.2.2.2.2.2.2.2.2.2.2.2.2.2.2.1
theorem zW54 {fw : Nat → Int32} (h : zWd fw) : fw 54 = 97 := h.2.2.2.2.2.2.2.2.2.2.2.2.2.2.2.2.2.2.2.2.2.2.2.2.2.2.2.2.2.2.2.2.2.2.2.2.2.2.2.2.2.2.2.2.2.2.2.2.2.2.2.2.2.2.1
theorem zW55 {fw : Nat → Int32} (h : zWd fw) : fw 55 = 114 := h.2.2.2.2.2.2.2.2.2.2.2.2.2.2.2.2.2.2.2.2.2.2.2.2.2.2.2.2.2.2.2.2.2.2.2.2.2.2.2.2.2.2.2.2.2.2.2.2.2.2.2.2.2.2.2.1
theorem zW56 {fw : Nat → Int32} (h : zWd fw) : fw 56 = 115 := h.2.2.2.2.2.2.2.2.2.2.2.2.2.2.2.2.2.2.2.2.2.2.2.2.2.2.2.2.2.2.2.2.2.2.2.2.2.2.2.2.2.2.2.2.2.2.2.2.2.2.2.2.2.2.2.2.1
theorem zW57 {fw : Nat → Int32} (h : zWd fw) : fw 57 = 32 := h.2.2.2.2.2.2.2.2.2.2.2.2.2.2.2.2.2.2.2.2.2.2.2.2.2.2.2.2.2.2.2.2.2.2.2.2.2.2.2.2.2.2.2.2.2.2.2.2.2.2.2.2.2.2.2.2.2.1
theorem zW58 {fw : Nat → Int32} (h : zWd fw) : fw 58 = 100 := h.2.2.2.2.2.2.2.2.2.2.2.2.2.2.2.2.2.2.2.2.2.2.2.2.2.2.2.2.2.2.2.2.2.2.2.2.2.2.2.2.2.2.2.2.2.2.2.2.2.2.2.2.2.2.2.2.2.2.1
theorem zW59 {fw : Nat → Int32} (h : zWd fw) : fw 59 = 97 := h.2.2.2.2.2.2.2.2.2.2.2.2.2.2.2.2.2.2.2.2.2.2.2.2.2.2.2.2.2.2.2.2.2.2.2.2.2.2.2.2.2.2.2.2.2.2.2.2.2.2.2.2.2.2.2.2.2.2.2.1
theorem zW60 {fw : Nat → Int32} (h : zWd fw) : fw 60 = 121 := h.2.2.2.2.2.2.2.2.2.2.2.2.2.2.2.2.2.2.2.2.2.2.2.2.2.2.2.2.2.2.2.2.2.2.2.2.2.2.2.2.2.2.2.2.2.2.2.2.2.2.2.2.2.2.2.2.2.2.2.2.1
theorem zW61 {fw : Nat → Int32} (h : zWd fw) : fw 61 = 115 := h.2.2.2.2.2.2.2.2.2.2.2.2.2.2.2.2.2.2.2.2.2.2.2.2.2.2.2.2.2.2.2.2.2.2.2.2.2.2.2.2.2.2.2.2.2.2.2.2.2.2.2.2.2.2.2.2.2.2.2.2.2.1
theorem zW62 {fw : Nat → Int32} (h : zWd fw) : fw 62 = 32 := h.2.2.2.2.2.2.2.2.2.2.2.2.2.2.2.2.2.2.2.2.2.2.2.2.2.2.2.2.2.2.2.2.2.2.2.2.2.2.2.2.2.2.2.2.2.2.2.2.2.2.2.2.2.2.2.2.2.2.2.2.2.2.1
theorem zW63 {fw : Nat → Int32} (h : zWd fw) : fw 63 = 116 := h.2.2.2.2.2.2.2.2.2.2.2.2.2.2.2.2.2.2.2.2.2.2.2.2.2.2.2.2.2.2.2.2.2.2.2.2.2.2.2.2.2.2.2.2.2.2.2.2.2.2.2.2.2.2.2.2.2.2.2.2.2.2.2.1
theorem zW64 {fw : Nat → Int32} (h : zWd fw) : fw 64 = 105 := h.2.2.2.2.2.2.2.2.2.2.2.2.2.2.2.2.2.2.2.2.2.2.2.2.2.2.2.2.2.2.2.2.2.2.2.2.2.2.2.2.2.2.2.2.2.2.2.2.2.2.2.2.2.2.2.2.2.2.2.2.2.2.2.2.1
theorem zW65 {fw : Nat → Int32} (h : zWd fw) : fw 65 = 108 := h.2.2.2.2.2.2.2.2.2.2.2.2.2.2.2.2.2.2.2.2.2.2.2.2.2.2.2.2.2.2.2.2.2.2.2.2.2.2.2.2.2.2.2.2.2.2.2.2.2.2.2.2.2.2.2.2.2.2.2.2.2.2.2.2.2.1
theorem zW66 {fw : Nat → Int32} (h : zWd fw) : fw 66 = 108 := h.2.2.2.2.2.2.2.2.2.2.2.2.2.2.2.2.2.2.2.2.2.2.2.2.2.2.2.2.2.2.2.2.2.2.2.2.2.2.2.2.2.2.2.2.2.2.2.2.2.2.2.2.2.2.2.2.2.2.2.2.2.2.2.2.2.2.1
theorem zW67 {fw : Nat → Int32} (h : zWd fw) : fw 67 = 32 := h.2.2.2.2.2.2.2.2.2.2.2.2.2.2.2.2.2.2.2.2.2.2.2.2.2.2.2.2.2.2.2.2.2.2.2.2.2.2.2.2.2.2.2.2.2.2.2.2.2.2.2.2.2.2.2.2.2.2.2.2.2.2.2.2.2.2.2.1
theorem zW68 {fw : Nat → Int32} (h : zWd fw) : fw 68 = 112 := h.2.2.2.2.2.2.2.2.2.2.2.2.2.2.2.2.2.2.2.2.2.2.2.2.2.2.2.2.2.2.2.2.2.2.2.2.2.2.2.2.2.2.2.2.2.2.2.2.2.2.2.2.2.2.2.2.2.2.2.2.2.2.2.2.2.2.2.2.1
theorem zW69 {fw : Nat → Int32} (h : zWd fw) : fw 69 = 97 := h.2.2.2.2.2.2.2.2.2.2.2.2.2.2.2.2.2.2.2.2.2.2.2.2.2.2.2.2.2.2.2.2.2.2.2.2.2.2.2.2.2.2.2.2.2.2.2.2.2.2.2.2.2.2.2.2.2.2.2.2.2.2.2.2.2.2.2.2.2.1
theorem zW70 {fw : Nat → Int32} (h : zWd fw) : fw 70 = 121 := h.2.2.2.2.2.2.2.2.2.2.2.2.2.2.2.2.2.2.2.2.2.2.2.2.2.2.2.2.2.2.2.2.2.2.2.2.2.2.2.2.2.2.2.2.2.2.2.2.2.2.2.2.2.2.2.2.2.2.2.2.2.2.2.2.2.2.2.2.2.2.1
theorem zW71 {fw : Nat → Int32} (h : zWd fw) : fw 71 = 32 := h.2.2.2.2.2.2.2.2.2.2.2.2.2.2.2.2.2.2.2.2.2.2.2.2.2.2.2.2.2.2.2.2.2.2.2.2.2.2.2.2.2.2.2.2.2.2.2.2.2.2.2.2.2.2.2.2.2.2.2.2.2.2.2.2.2.2.2.2.2.2.2.1
theorem zW72 {fw : Nat → Int32} (h : zWd fw) : fw 72 = 97 := h.2.2.2.2.2.2.2.2.2.2.2.2.2.2.2.2.2.2.2.2.2.2.2.2.2.2.2.2.2.2.2.2.2.2.2.2.2.2.2.2.2.2.2.2.2.2.2.2.2.2.2.2.2.2.2.2.2.2.2.2.2.2.2.2.2.2.2.2.2.2.2.2.1
theorem zW73 {fw : Nat → Int32} (h : zWd fw) : fw 73 = 108 := h.2.2.2.2.2.2.2.2.2.2.2.2.2.2.2.2.2.2.2.2.2.2.2.2.2.2.2.2.2.2.2.2.2.2.2.2.2.2.2.2.2.2.2.2.2.2.2.2.2.2.2.2.2.2.2.2.2.2.2.2.2.2.2.2.2.2.2.2.2.2.2.2.2.1
theorem zW74 {fw : Nat → Int32} (h : zWd fw) : fw 74 = 105 := h.2.2.2.2.2.2.2.2.2.2.2.2.2.2.2.2.2.2.2.2.2.2.2.2.2.2.2.2.2.2.2.2.2.2.2.2.2.2.2.2.2.2.2.2.2.2.2.2.2.2.2.2.2.2.2.2.2.2.2.2.2.2.2.2.2.2.2.2.2.2.2.2.2.2.1
theorem zW75 {fw : Nat → Int32} (h : zWd fw) : fw 75 = 118 := h.2.2.2.2.2.2.2.2.2.2.2.2.2.2.2.2.2.2.2.2.2.2.2.2.2.2.2.2.2.2.2.2.2.2.2.2.2.2.2.2.2.2.2.2.2.2.2.2.2.2.2.2.2.2.2.2.2.2.2.2.2.2.2.2.2.2.2.2.2.2.2.2.2.2.2.1
theorem zW76 {fw : Nat → Int32} (h : zWd fw) : fw 76 = 101 := h.2.2.2.2.2.2.2.2.2.2.2.2.2.2.2.2.2.2.2.2.2.2.2.2.2.2.2.2.2.2.2.2.2.2.2.2.2.2.2.2.2.2.2.2.2.2.2.2.2.2.2.2.2.2.2.2.2.2.2.2.2.2.2.2.2.2.2.2.2.2.2.2.2.2.2.2.1
theorem zW77 {fw : Nat → Int32} (h : zWd fw) : fw 77 = 32 := h.2.2.2.2.2.2.2.2.2.2.2.2.2.2.2.2.2.2.2.2.2.2.2.2.2.2.2.2.2.2.2.2.2.2.2.2.2.2.2.2.2.2.2.2.2.2.2.2.2.2.2.2.2.2.2.2.2.2.2.2.2.2.2.2.2.2.2.2.2.2.2.2.2.2.2.2.2.1
theorem zW78 {fw : Nat → Int32} (h : zWd fw) : fw 78 = 97 := h.2.2.2.2.2.2.2.2.2.2.2.2.2.2.2.2.2.2.2.2.2.2.2.2.2.2.2.2.2.2.2.2.2.2.2.2.2.2.2.2.2.2.2.2.2.2.2.2.2.2.2.2.2.2.2.2.2.2.2.2.2.2.2.2.2.2.2.2.2.2.2.2.2.2.2.2.2.2.1
theorem zW79 {fw : Nat → Int32} (h : zWd fw) : fw 79 = 102 := h.2.2.2.2.2.2.2.2.2.2.2.2.2.2.2.2.2.2.2.2.2.2.2.2.2.2.2.2.2.2.2.2.2.2.2.2.2.2.2.2.2.2.2.2.2.2.2.2.2.2.2.2.2.2.2.2.2.2.2.2.2.2.2.2.2.2.2.2.2.2.2.2.2.2.2.2.2.2.2.1
theorem zW80 {fw : Nat → Int32} (h : zWd fw) : fw 80 = 116 := h.2.2.2.2.2.2.2.2.2.2.2.2.2.2.2.2.2.2.2.2.2.2.2.2.2.2.2.2.2.2.2.2.2.2.2.2.2.2.2.2.2.2.2.2.2.2.2.2.2.2.2.2.2.2.2.2.2.2.2.2.2.2.2.2.2.2.2.2.2.2.2.2.2.2.2.2.2.2.2.2.1
theorem zW81 {fw : Nat → Int32} (h : zWd fw) : fw 81 = 101 := h.2.2.2.2.2.2.2.2.2.2.2.2.2.2.2.2.2.2.2.2.2.2.2.2.2.2.2.2.2.2.2.2.2.2.2.2.2.2.2.2.2.2.2.2.2.2.2.2.2.2.2.2.2.2.2.2.2.2.2.2.2.2.2.2.2.2.2.2.2.2.2.2.2.2.2.2.2.2.2.2.2.1
theorem zW82 {fw : Nat → Int32} (h : zWd fw) : fw 82 = 114 := h.2.2.2.2.2.2.2.2.2.2.2.2.2.2.2.2.2.2.2.2.2.2.2.2.2.2.2.2.2.2.2.2.2.2.2.2.2.2.2.2.2.2.2.2.2.2.2.2.2.2.2.2.2.2.2.2.2.2.2.2.2.2.2.2.2.2.2.2.2.2.2.2.2.2.2.2.2.2.2.2.2.2.1
theorem zW83 {fw : Nat → Int32} (h : zWd fw) : fw 83 = 32 := h.2.2.2.2.2.2.2.2.2.2.2.2.2.2.2.2.2.2.2.2.2.2.2.2.2.2.2.2.2.2.2.2.2.2.2.2.2.2.2.2.2.2.2.2.2.2.2.2.2.2.2.2.2.2.2.2.2.2.2.2.2.2.2.2.2.2.2.2.2.2.2.2.2.2.2.2.2.2.2.2.2.2.2.1
theorem zW84 {fw : Nat → Int32} (h : zWd fw) : fw 84 = 97 := h.2.2.2.2.2.2.2.2.2.2.2.2.2.2.2.2.2.2.2.2.2.2.2.2.2.2.2.2.2.2.2.2.2.2.2.2.2.2.2.2.2.2.2.2.2.2.2.2.2.2.2.2.2.2.2.2.2.2.2.2.2.2.2.2.2.2.2.2.2.2.2.2.2.2.2.2.2.2.2.2.2.2.2.2.1
theorem zW85 {fw : Nat → Int32} (h : zWd fw) : fw 85 = 110 := h.2.2.2.2.2.2.2.2.2.2.2.2.2.2.2.2.2.2.2.2.2.2.2.2.2.2.2.2.2.2.2.2.2.2.2.2.2.2.2.2.2.2.2.2.2.2.2.2.2.2.2.2.2.2.2.2.2.2.2.2.2.2.2.2.2.2.2.2.2.2.2.2.2.2.2.2.2.2.2.2.2.2.2.2.2.1
theorem zW86 {fw : Nat → Int32} (h : zWd fw) : fw 86 = 100 := h.2.2.2.2.2.2.2.2.2.2.2.2.2.2.2.2.2.2.2.2.2.2.2.2.2.2.2.2.2.2.2.2.2.2.2.2.2.2.2.2.2.2.2.2.2.2.2.2.2.2.2.2.2.2.2.2.2.2.2.2.2.2.2.2.2.2.2.2.2.2.2.2.2.2.2.2.2.2.2.2.2.2.2.2.2.2.1
theorem zW87 {fw : Nat → Int32} (h : zWd fw) : fw 87 = 32 := h.2.2.2.2.2.2.2.2.2.2.2.2.2.2.2.2.2.2.2.2.2.2.2.2.2.2.2.2.2.2.2.2.2.2.2.2.2.2.2.2.2.2.2.2.2.2.2.2.2.2.2.2.2.2.2.2.2.2.2.2.2.2.2.2.2.2.2.2.2.2.2.2.2.2.2.2.2.2.2.2.2.2.2.2.2.2.2.1
theorem zW88 {fw : Nat → Int32} (h : zWd fw) : fw 88 = 111 := h.2.2.2.2.2.2.2.2.2.2.2.2.2.2.2.2.2.2.2.2.2.2.2.2.2.2.2.2.2.2.2.2.2.2.2.2.2.2.2.2.2.2.2.2.2.2.2.2.2.2.2.2.2.2.2.2.2.2.2.2.2.2.2.2.2.2.2.2.2.2.2.2.2.2.2.2.2.2.2.2.2.2.2.2.2.2.2.2.1
theorem zW89 {fw : Nat → Int32} (h : zWd fw) : fw 89 = 114 := h.2.2.2.2.2.2.2.2.2.2.2.2.2.2.2.2.2.2.2.2.2.2.2.2.2.2.2.2.2.2.2.2.2.2.2.2.2.2.2.2.2.2.2.2.2.2.2.2.2.2.2.2.2.2.2.2.2.2.2.2.2.2.2.2.2.2.2.2.2.2.2.2.2.2.2.2.2.2.2.2.2.2.2.2.2.2.2.2.2.1
theorem zW90 {fw : Nat → Int32} (h : zWd fw) : fw 90 = 32 := h.2.2.2.2.2.2.2.2.2.2.2.2.2.2.2.2.2.2.2.2.2.2.2.2.2.2.2.2.2.2.2.2.2.2.2.2.2.2.2.2.2.2.2.2.2.2.2.2.2.2.2.2.2.2.2.2.2.2.2.2.2.2.2.2.2.2.2.2.2.2.2.2.2.2.2.2.2.2.2.2.2.2.2.2.2.2.2.2.2.2.1
theorem zW91 {fw : Nat → Int32} (h : zWd fw) : fw 91 = 110 := h.2.2.2.2.2.2.2.2.2.2.2.2.2.2.2.2.2.2.2.2.2.2.2.2.2.2.2.2.2.2.2.2.2.2.2.2.2.2.2.2.2.2.2.2.2.2.2.2.2.2.2.2.2.2.2.2.2.2.2.2.2.2.2.2.2.2.2.2.2.2.2.2.2.2.2.2.2.2.2.2.2.2.2.2.2.2.2.2.2.2.2.1
theorem zW92 {fw : Nat → Int32} (h : zWd fw) : fw 92 = 111 := h.2.2.2.2.2.2.2.2.2.2.2.2.2.2.2.2.2.2.2.2.2.2.2.2.2.2.2.2.2.2.2.2.2.2.2.2.2.2.2.2.2.2.2.2.2.2.2.2.2.2.2.2.2.2.2.2.2.2.2.2.2.2.2.2.2.2.2.2.2.2.2.2.2.2.2.2.2.2.2.2.2.2.2.2.2.2.2.2.2.2.2.2.1
theorem zW93 {fw : Nat → Int32} (h : zWd fw) : fw 93 = 116 := h.2.2.2.2.2.2.2.2.2.2.2.2.2.2.2.2.2.2.2.2.2.2.2.2.2.2.2.2.2.2.2.2.2.2.2.2.2.2.2.2.2.2.2.2.2.2.2.2.2.2.2.2.2.2.2.2.2.2.2.2.2.2.2.2.2.2.2.2.2.2.2.2.2.2.2.2.2.2.2.2.2.2.2.2.2.2.2.2.2.2.2.2.2.1
theorem zW94 {fw : Nat → Int32} (h : zWd fw) : fw 94 = 32 := h.2.2.2.2.2.2.2.2.2.2.2.2.2.2.2.2.2.2.2.2.2.2.2.2.2.2.2.2.2.2.2.2.2.2.2.2.2.2.2.2.2.2.2.2.2.2.2.2.2.2.2.2.2.2.2.2.2.2.2.2.2.2.2.2.2.2.2.2.2.2.2.2.2.2.2.2.2.2.2.2.2.2.2.2.2.2.2.2.2.2.2.2.2.2.1
theorem zW95 {fw : Nat → Int32} (h : zWd fw) : fw 95 = 100 := h.2.2.2.2.2.2.2.2.2.2.2.2.2.2.2.2.2.2.2.2.2.2.2.2.2.2.2.2.2.2.2.2.2.2.2.2.2.2.2.2.2.2.2.2.2.2.2.2.2.2.2.2.2.2.2.2.2.2.2.2.2.2.2.2.2.2.2.2.2.2.2.2.2.2.2.2.2.2.2.2.2.2.2.2.2.2.2.2.2.2.2.2.2.2.2.1
theorem zW96 {fw : Nat → Int32} (h : zWd fw) : fw 96 = 97 := h.2.2.2.2.2.2.2.2.2.2.2.2.2.2.2.2.2.2.2.2.2.2.2.2.2.2.2.2.2.2.2.2.2.2.2.2.2.2.2.2.2.2.2.2.2.2.2.2.2.2.2.2.2.2.2.2.2.2.2.2.2.2.2.2.2.2.2.2.2.2.2.2.2.2.2.2.2.2.2.2.2.2.2.2.2.2.2.2.2.2.2.2.2.2.2.2.1
theorem zW97 {fw : Nat → Int32} (h : zWd fw) : fw 97 = 121 := h.2.2.2.2.2.2.2.2.2.2.2.2.2.2.2.2.2.2.2.2.2.2.2.2.2.2.2.2.2.2.2.2.2.2.2.2.2.2.2.2.2.2.2.2.2.2.2.2.2.2.2.2.2.2.2.2.2.2.2.2.2.2.2.2.2.2.2.2.2.2.2.2.2.2.2.2.2.2.2.2.2.2.2.2.2.2.2.2.2.2.2.2.2.2.2.2.2.1
theorem zW98 {fw : Nat → Int32} (h : zWd fw) : fw 98 = 32 := h.2.2.2.2.2.2.2.2.2.2.2.2.2.2.2.2.2.2.2.2.2.2.2.2.2.2.2.2.2.2.2.2.2.2.2.2.2.2.2.2.2.2.2.2.2.2.2.2.2.2.2.2.2.2.2.2.2.2.2.2.2.2.2.2.2.2.2.2.2.2.2.2.2.2.2.2.2.2.2.2.2.2.2.2.2.2.2.2.2.2.2.2.2.2.2.2.2.2.1
theorem zW99 {fw : Nat → Int32} (h : zWd fw) : fw 99 = 121 := h.2.2.2.2.2.2.2.2.2.2.2.2.2.2.2.2.2.2.2.2.2.2.2.2.2.2.2.2.2.2.2.2.2.2.2.2.2.2.2.2.2.2.2.2.2.2.2.2.2.2.2.2.2.2.2.2.2.2.2.2.2.2.2.2.2.2.2.2.2.2.2.2.2.2.2.2.2.2.2.2.2.2.2.2.2.2.2.2.2.2.2.2.2.2.2.2.2.2.2.1
theorem zW100 {fw : Nat → Int32} (h : zWd fw) : fw 100 = 101 := h.2.2.2.2.2.2.2.2.2.2.2.2.2.2.2.2.2.2.2.2.2.2.2.2.2.2.2.2.2.2.2.2.2.2.2.2.2.2.2.2.2.2.2.2.2.2.2.2.2.2.2.2.2.2.2.2.2.2.2.2.2.2.2.2.2.2.2.2.2.2.2.2.2.2.2.2.2.2.2.2.2.2.2.2.2.2.2.2.2.2.2.2.2.2.2.2.2.2.2.2.1
theorem zW101 {fw : Nat → Int32} (h : zWd fw) : fw 101 = 97 := h.2.2.2.2.2.2.2.2.2.2.2.2.2.2.2.2.2.2.2.2.2.2.2.2.2.2.2.2.2.2.2.2.2.2.2.2.2.2.2.2.2.2.2.2.2.2.2.2.2.2.2.2.2.2.2.2.2.2.2.2.2.2.2.2.2.2.2.2.2.2.2.2.2.2.2.2.2.2.2.2.2.2.2.2.2.2.2.2.2.2.2.2.2.2.2.2.2.2.2.2.2.1
theorem zW102 {fw : Nat → Int32} (h : zWd fw) : fw 102 = 114 := h.2.2.2.2.2.2.2.2.2.2.2.2.2.2.2.2.2.2.2.2.2.2.2.2.2.2.2.2.2.2.2.2.2.2.2.2.2.2.2.2.2.2.2.2.2.2.2.2.2.2.2.2.2.2.2.2.2.2.2.2.2.2.2.2.2.2.2.2.2.2.2.2.2.2.2.2.2.2.2.2.2.2.2.2.2.2.2.2.2.2.2.2.2.2.2.2.2.2.2.2.2.2.1
theorem zW103 {fw : Nat → Int32} (h : zWd fw) : fw 103 = 32 := h.2.2.2.2.2.2.2.2.2.2.2.2.2.2.2.2.2.2.2.2.2.2.2.2.2.2.2.2.2.2.2.2.2.2.2.2.2.2.2.2.2.2.2.2.2.2.2.2.2.2.2.2.2.2.2.2.2.2.2.2.2.2.2.2.2.2.2.2.2.2.2.2.2.2.2.2.2.2.2.2.2.2.2.2.2.2.2.2.2.2.2.2.2.2.2.2.2.2.2.2.2.2.2.1
theorem zW104 {fw : Nat → Int32} (h : zWd fw) : fw 104 = 115 := h.2.2.2.2.2.2.2.2.2.2.2.2.2.2.2.2.2.2.2.2.2.2.2.2.2.2.2.2.2.2.2.2.2.2.2.2.2.2.2.2.2.2.2.2.2.2.2.2.2.2.2.2.2.2.2.2.2.2.2.2.2.2.2.2.2.2.2.2.2.2.2.2.2.2.2.2.2.2.2.2.2.2.2.2.2.2.2.2.2.2.2.2.2.2.2.2.2.2.2.2.2.2.2.2.1
theorem zW105 {fw : Nat → Int32} (h : zWd fw) : fw 105 = 101 := h.2.2.2.2.2.2.2.2.2.2.2.2.2.2.2.2.2.2.2.2.2.2.2.2.2.2.2.2.2.2.2.2.2.2.2.2.2.2.2.2.2.2.2.2.2.2.2.2.2.2.2.2.2.2.2.2.2.2.2.2.2.2.2.2.2.2.2.2.2.2.2.2.2.2.2.2.2.2.2.2.2.2.2.2.2.2.2.2.2.2.2.2.2.2.2.2.2.2.2.2.2.2.2.2.2.1
theorem zW106 {fw : Nat → Int32} (h : zWd fw) : fw 106 = 97 := h.2.2.2.2.2.2.2.2.2.2.2.2.2.2.2.2.2.2.2.2.2.2.2.2.2.2.2.2.2.2.2.2.2.2.2.2.2.2.2.2.2.2.2.2.2.2.2.2.2.2.2.2.2.2.2.2.2.2.2.2.2.2.2.2.2.2.2.2.2.2.2.2.2.2.2.2.2.2.2.2.2.2.2.2.2.2.2.2.2.2.2.2.2.2.2.2.2.2.2.2.2.2.2.2.2.2.1
theorem zW107 {fw : Nat → Int32} (h : zWd fw) : fw 107 = 115 := h.2.2.2.2.2.2.2.2.2.2.2.2.2.2.2.2.2.2.2.2.2.2.2.2.2.2.2.2.2.2.2.2.2.2.2.2.2.2.2.2.2.2.2.2.2.2.2.2.2.2.2.2.2.2.2.2.2.2.2.2.2.2.2.2.2.2.2.2.2.2.2.2.2.2.2.2.2.2.2.2.2.2.2.2.2.2.2.2.2.2.2.2.2.2.2.2.2.2.2.2.2.2.2.2.2.2.2.1
theorem zW108 {fw : Nat → Int32} (h : zWd fw) : fw 108 = 111 := h.2.2.2.2.2.2.2.2.2.2.2.2.2.2.2.2.2.2.2.2.2.2.2.2.2.2.2.2.2.2.2.2.2.2.2.2.2.2.2.2.2.2.2.2.2.2.2.2.2.2.2.2.2.2.2.2.2.2.2.2.2.2.2.2.2.2.2.2.2.2.2.2.2.2.2.2.2.2.2.2.2.2.2.2.2.2.2.2.2.2.2.2.2.2.2.2.2.2.2.2.2.2.2.2.2.2.2.2.1
theorem zW109 {fw : Nat → Int32} (h : zWd fw) : fw 109 = 110 := h.2.2.2.2.2.2.2.2.2.2.2.2.2.2.2.2.2.2.2.2.2.2.2.2.2.2.2.2.2.2.2.2.2.2.2.2.2.2.2.2.2.2.2.2.2.2.2.2.2.2.2.2.2.2.2.2.2.2.2.2.2.2.2.2.2.2.2.2.2.2.2.2.2.2.2.2.2.2.2.2.2.2.2.2.2.2.2.2.2.2.2.2.2.2.2.2.2.2.2.2.2.2.2.2.2.2.2.2.2.1
theorem zW110 {fw : Nat → Int32} (h : zWd fw) : fw 110 = 32 := h.2.2.2.2.2.2.2.2.2.2.2.2.2.2.2.2.2.2.2.2.2.2.2.2.2.2.2.2.2.2.2.2.2.2.2.2.2.2.2.2.2.2.2.2.2.2.2.2.2.2.2.2.2.2.2.2.2.2.2.2.2.2.2.2.2.2.2.2.2.2.2.2.2.2.2.2.2.2.2.2.2.2.2.2.2.2.2.2.2.2.2.2.2.2.2.2.2.2.2.2.2.2.2.2.2.2.2.2.2.2.1
theorem zW111 {fw : Nat → Int32} (h : zWd fw) : fw 111 = 108 := h.2.2.2.2.2.2.2.2.2.2.2.2.2.2.2.2.2.2.2.2.2.2.2.2.2.2.2.2.2.2.2.2.2.2.2.2.2.2.2.2.2.2.2.2.2.2.2.2.2.2.2.2.2.2.2.2.2.2.2.2.2.2.2.2.2.2.2.2.2.2.2.2.2.2.2.2.2.2.2.2.2.2.2.2.2.2.2.2.2.2.2.2.2.2.2.2.2.2.2.2.2.2.2.2.2.2.2.2.2.2.2.1
theorem zW112 {fw : Nat → Int32} (h : zWd fw) : fw 112 = 101 := h.2.2.2.2.2.2.2.2.2.2.2.2.2.2.2.2.2.2.2.2.2.2.2.2.2.2.2.2.2.2.2.2.2.2.2.2.2.2.2.2.2.2.2.2.2.2.2.2.2.2.2.2.2.2.2.2.2.2.2.2.2.2.2.2.2.2.2.2.2.2.2.2.2.2.2.2.2.2.2.2.2.2.2.2.2.2.2.2.2.2.2.2.2.2.2.2.2.2.2.2.2.2.2.2.2.2.2.2.2.2.2.2.1
theorem zW113 {fw : Nat → Int32} (h : zWd fw) : fw 113 = 110 := h.2.2.2.2.2.2.2.2.2.2.2.2.2.2.2.2.2.2.2.2.2.2.2.2.2.2.2.2.2.2.2.2.2.2.2.2.2.2.2.2.2.2.2.2.2.2.2.2.2.2.2.2.2.2.2.2.2.2.2.2.2.2.2.2.2.2.2.2.2.2.2.2.2.2.2.2.2.2.2.2.2.2.2.2.2.2.2.2.2.2.2.2.2.2.2.2.2.2.2.2.2.2.2.2.2.2.2.2.2.2.2.2.2.1
theorem zW114 {fw : Nat → Int32} (h : zWd fw) : fw 114 = 103 := h.2.2.2.2.2.2.2.2.2.2.2.2.2.2.2.2.2.2.2.2.2.2.2.2.2.2.2.2.2.2.2.2.2.2.2.2.2.2.2.2.2.2.2.2.2.2.2.2.2.2.2.2.2.2.2.2.2.2.2.2.2.2.2.2.2.2.2.2.2.2.2.2.2.2.2.2.2.2.2.2.2.2.2.2.2.2.2.2.2.2.2.2.2.2.2.2.2.2.2.2.2.2.2.2.2.2.2.2.2.2.2.2.2.2.1
theorem zW115 {fw : Nat → Int32} (h : zWd fw) : fw 115 = 116 := h.2.2.2.2.2.2.2.2.2.2.2.2.2.2.2.2.2.2.2.2.2.2.2.2.2.2.2.2.2.2.2.2.2.2.2.2.2.2.2.2.2.2.2.2.2.2.2.2.2.2.2.2.2.2.2.2.2.2.2.2.2.2.2.2.2.2.2.2.2.2.2.2.2.2.2.2.2.2.2.2.2.2.2.2.2.2.2.2.2.2.2.2.2.2.2.2.2.2.2.2.2.2.2.2.2.2.2.2.2.2.2.2.2.2.2.1
theorem zW116 {fw : Nat → Int32} (h : zWd fw) : fw 116 = 104 := h.2.2.2.2.2.2.2.2.2.2.2.2.2.2.2.2.2.2.2.2.2.2.2.2.2.2.2.2.2.2.2.2.2.2.2.2.2.2.2.2.2.2.2.2.2.2.2.2.2.2.2.2.2.2.2.2.2.2.2.2.2.2.2.2.2.2.2.2.2.2.2.2.2.2.2.2.2.2.2.2.2.2.2.2.2.2.2.2.2.2.2.2.2.2.2.2.2.2.2.2.2.2.2.2.2.2.2.2.2.2.2.2.2.2.2.2.1
theorem zW117 {fw : Nat → Int32} (h : zWd fw) : fw 117 = 32 := h.2.2.2.2.2.2.2.2.2.2.2.2.2.2.2.2.2.2.2.2.2.2.2.2.2.2.2.2.2.2.2.2.2.2.2.2.2.2.2.2.2.2.2.2.2.2.2.2.2.2.2.2.2.2.2.2.2.2.2.2.2.2.2.2.2.2.2.2.2.2.2.2.2.2.2.2.2.2.2.2.2.2.2.2.2.2.2.2.2.2.2.2.2.2.2.2.2.2.2.2.2.2.2.2.2.2.2.2.2.2.2.2.2.2.2.2.2
def zM0 (ft : Nat → Int32) (a b : Int32) : Prop := b - a = 4 ∧ ft ((a + 0).toNatClampNeg) = 108 ∧ ft ((a + 1).toNatClampNeg) = 97 ∧ ft ((a + 2).toNatClampNeg) = 110 ∧ ft ((a + 3).toNatClampNeg) = 100
theorem zd0 {fw : Nat → Int32} (h : zWd fw) : fq_wordAt_d fw 0 118 0 = 4 := by
  rw [fq_wordAt_d, show ((0 : Int32) + 0).toNatClampNeg = 0 from rfl, zW0 h, if_neg (by decide), show (0 : Int32) + 1 = 1 from rfl]
  rw [fq_wordAt_d, show ((0 : Int32) + 1).toNatClampNeg = 1 from rfl, zW1 h, if_neg (by decide), show (1 : Int32) + 1 = 2 from rfl]
  rw [fq_wordAt_d, show ((0 : Int32) + 2).toNatClampNeg = 2 from rfl, zW2 h, if_neg (by decide), show (2 : Int32) + 1 = 3 from rfl]
  rw [fq_wordAt_d, show ((0 : Int32) + 3).toNatClampNeg = 3 from rfl, zW3 h, if_neg (by decide), show (3 : Int32) + 1 = 4 from rfl]
  rw [fq_wordAt_d, show ((0 : Int32) + 4).toNatClampNeg = 4 from rfl, zW4 h, if_pos rfl]
theorem ze0 {ft fw : Nat → Int32} {a b : Int32} (h : zWd fw) (hb : b - a = 4) : ((fq_wordAt_e ft fw a 0 4 118 1 0).1 = 1 ∧ zM0 ft a b) ∨ ((fq_wordAt_e ft fw a 0 4 118 1 0).1 = 0 ∧ ¬ zM0 ft a b) := by
  rw [fq_wordAt_e, if_neg (by decide), if_neg (by decide), show ((0 : Int32) + 0).toNatClampNeg = 0 from rfl, zW0 h]
  by_cases c0 : (108 : Int32) = ft ((a + 0).toNatClampNeg)
  case neg =>
    rw [if_neg c0, fq_wordAt_e]
    refine Or.inr ⟨?_, fun z => c0 (z.2.1).symm⟩
    by_cases q : (4 : Int32) ≤ 0 + 1
    · rw [if_pos q]
    · rw [if_neg q, if_pos rfl]
  rw [if_pos c0, show (0 : Int32) + 1 = 1 from rfl]
  rw [fq_wordAt_e, if_neg (by decide), if_neg (by decide), show ((0 : Int32) + 1).toNatClampNeg = 1 from rfl, zW1 h]
  by_cases c1 : (97 : Int32) = ft ((a + 1).toNatClampNeg)
  case neg =>
    rw [if_neg c1, fq_wordAt_e]
    refine Or.inr ⟨?_, fun z => c1 (z.2.2.1).symm⟩
    by_cases q : (4 : Int32) ≤ 1 + 1
    · rw [if_pos q]
    · rw [if_neg q, if_pos rfl]
  rw [if_pos c1, show (1 : Int32) + 1 = 2 from rfl]
  rw [fq_wordAt_e, if_neg (by decide), if_neg (by decide), show ((0 : Int32) + 2).toNatClampNeg = 2 from rfl, zW2 h]
  by_cases c2 : (110 : Int32) = ft ((a + 2).toNatClampNeg)
  case neg =>
    rw [if_neg c2, fq_wordAt_e]
    refine Or.inr ⟨?_, fun z => c2 (z.2.2.2.1).symm⟩
    by_cases q : (4 : Int32) ≤ 2 + 1
    · rw [if_pos q]
    · rw [if_neg q, if_pos rfl]
  rw [if_pos c2, show (2 : Int32) + 1 = 3 from rfl]
  rw [fq_wordAt_e, if_neg (by decide), if_neg (by decide), show ((0 : Int32) + 3).toNatClampNeg = 3 from rfl, zW3 h]
  by_cases c3 : (100 : Int32) = ft ((a + 3).toNatClampNeg)
  case neg =>
    rw [if_neg c3, fq_wordAt_e]
    refine Or.inr ⟨?_, fun z => c3 (z.2.2.2.2).symm⟩
    by_cases q : (4 : Int32) ≤ 3 + 1
    · rw [if_pos q]
    · rw [if_neg q, if_pos rfl]
  rw [if_pos c3, show (3 : Int32) + 1 = 4 from rfl]
  rw [fq_wordAt_e, if_pos (by decide)]
  exact Or.inl ⟨rfl, hb, c0.symm, c1.symm, c2.symm, c3.symm⟩
theorem zc0 {ft fw : Nat → Int32} {a b : Int32} (h : zWd fw) : (zM0 ft a b ∧ fq_wordAt_c ft fw a b 118 0 0 = 0) ∨ (¬ zM0 ft a b ∧ fq_wordAt_c ft fw a b 118 0 0 = fq_wordAt_c ft fw a b 117 1 5) := by
  rw [fq_wordAt_c, if_neg (by decide), xL_eq, zd0 h, show (0 : Int32) + (4 + 1) = 5 from rfl, show (0 : Int32) + 1 = 1 from rfl]
  by_cases c : (4 : Int32) = b - a
  · rw [if_pos c, xL_eq]
    rcases ze0 (ft := ft) h c.symm with ⟨e, q⟩ | ⟨e, q⟩
    · rw [e, if_neg (by decide)]; exact Or.inl ⟨q, rfl⟩
    · rw [e, if_pos rfl]; exact Or.inr ⟨q, rfl⟩
  · rw [if_neg c, xL_eq, show fq_wordAt_e ft fw a 0 4 118 0 0 = (0, 0) from by rw [fq_wordAt_e, if_neg (by decide), if_pos rfl], if_pos rfl]
    exact Or.inr ⟨fun q => c q.1.symm, rfl⟩
theorem zk0 {ft : Nat → Int32} {a b : Int32} (a0 : ¬ a < 0) (a9 : a ≤ 900) (b9 : b ≤ 900) (b0 : ¬ b < a) (hs : ∀ k : Int32, ¬ k < a → k < b → ¬ ft k.toNatClampNeg < 97 ∧ ft k.toNatClampNeg ≤ 122) : zM0 ft a b ↔ fq_packed ft a b = 404164608 := by
  constructor
  · intro hm
    have hb := hm.1
    rw [zpd a0 a9]
    rw [show zE ft a b 0 = 12 from by rw [zE, if_neg (by lia), hm.2.1]; rfl]
    rw [show zE ft a b 1 = 1 from by rw [zE, if_neg (by lia), hm.2.2.1]; rfl]
    rw [show zE ft a b 2 = 14 from by rw [zE, if_neg (by lia), hm.2.2.2.1]; rfl]
    rw [show zE ft a b 3 = 4 from by rw [zE, if_neg (by lia), hm.2.2.2.2]; rfl]
    rw [show zE ft a b 4 = 0 from by rw [zE, if_pos (by lia)]]
    rw [show zE ft a b 5 = 0 from by rw [zE, if_pos (by lia)]]
    rfl
  · intro hc
    obtain ⟨E0, E1, E2, E3, E4, E5, l0, l1, l2, l3, l4, l5, g0, g1, g2, g3, g4, g5, hn⟩ := zpn a0 a9 hs
    rw [hc, show ((404164608 : Int32)).toBitVec.toNat = 404164608 from rfl] at hn
    have v0 : zE ft a b 0 = 12 := by
      have z : E0 = 12 := by omega
      rw [z] at g0
      exact zEq g0 (by decide)
    have x0 := zEr hs a0 a9 0 (by decide) (by decide)
    rw [v0] at x0
    have v1 : zE ft a b 1 = 1 := by
      have z : E1 = 1 := by omega
      rw [z] at g1
      exact zEq g1 (by decide)
    have x1 := zEr hs a0 a9 1 (by decide) (by decide)
    rw [v1] at x1
    have v2 : zE ft a b 2 = 14 := by
      have z : E2 = 14 := by omega
      rw [z] at g2
      exact zEq g2 (by decide)
    have x2 := zEr hs a0 a9 2 (by decide) (by decide)
    rw [v2] at x2
    have v3 : zE ft a b 3 = 4 := by
      have z : E3 = 4 := by omega
      rw [z] at g3
      exact zEq g3 (by decide)
    have x3 := zEr hs a0 a9 3 (by decide) (by decide)
    rw [v3] at x3
    have v4 : zE ft a b 4 = 0 := by
      have z : E4 = 0 := by omega
      rw [z] at g4
      exact zEq g4 (by decide)
    have x4 := zEr hs a0 a9 4 (by decide) (by decide)
    rw [v4] at x4
    have v5 : zE ft a b 5 = 0 := by
      have z : E5 = 0 := by omega
      rw [z] at g5
      exact zEq g5 (by decide)
    have x5 := zEr hs a0 a9 5 (by decide) (by decide)
    rw [v5] at x5
    have y0 : ¬ b ≤ a + 0 ∧ ft ((a + 0).toNatClampNeg) = 108 := by
      rcases x0 with q | q
      · exact absurd q.2 (by decide)
      · exact ⟨q.1, by have q2 := q.2.1; lia⟩
    have y1 : ¬ b ≤ a + 1 ∧ ft ((a + 1).toNatClampNeg) = 97 := by
      rcases x1 with q | q
      · exact absurd q.2 (by decide)
      · exact ⟨q.1, by have q2 := q.2.1; lia⟩
    have y2 : ¬ b ≤ a + 2 ∧ ft ((a + 2).toNatClampNeg) = 110 := by
      rcases x2 with q | q
      · exact absurd q.2 (by decide)
      · exact ⟨q.1, by have q2 := q.2.1; lia⟩
    have y3 : ¬ b ≤ a + 3 ∧ ft ((a + 3).toNatClampNeg) = 100 := by
      rcases x3 with q | q
      · exact absurd q.2 (by decide)
      · exact ⟨q.1, by have q2 := q.2.1; lia⟩
    have y4 : b ≤ a + 4 := by
      rcases x4 with q | q
      · exact q.1
      · exact absurd q.2.2.1 (by decide)
    have y6 : b - a = 4 := by have u := y3.1; lia
    exact ⟨y6, y0.2, y1.2, y2.2, y3.2⟩
def zM1 (ft : Nat → Int32) (a b : Int32) : Prop := b - a = 5 ∧ ft ((a + 0).toNatClampNeg) = 102 ∧ ft ((a + 1).toNatClampNeg) = 101 ∧ ft ((a + 2).toNatClampNeg) = 97 ∧ ft ((a + 3).toNatClampNeg) = 115 ∧ ft ((a + 4).toNatClampNeg) = 116
theorem zd1 {fw : Nat → Int32} (h : zWd fw) : fq_wordAt_d fw 5 118 0 = 5 := by
  rw [fq_wordAt_d, show ((5 : Int32) + 0).toNatClampNeg = 5 from rfl, zW5 h, if_neg (by decide), show (0 : Int32) + 1 = 1 from rfl]
  rw [fq_wordAt_d, show ((5 : Int32) + 1).toNatClampNeg = 6 from rfl, zW6 h, if_neg (by decide), show (1 : Int32) + 1 = 2 from rfl]
  rw [fq_wordAt_d, show ((5 : Int32) + 2).toNatClampNeg = 7 from rfl, zW7 h, if_neg (by decide), show (2 : Int32) + 1 = 3 from rfl]
  rw [fq_wordAt_d, show ((5 : Int32) + 3).toNatClampNeg = 8 from rfl, zW8 h, if_neg (by decide), show (3 : Int32) + 1 = 4 from rfl]
  rw [fq_wordAt_d, show ((5 : Int32) + 4).toNatClampNeg = 9 from rfl, zW9 h, if_neg (by decide), show (4 : Int32) + 1 = 5 from rfl]
  rw [fq_wordAt_d, show ((5 : Int32) + 5).toNatClampNeg = 10 from rfl, zW10 h, if_pos rfl]
theorem ze1 {ft fw : Nat → Int32} {a b : Int32} (h : zWd fw) (hb : b - a = 5) : ((fq_wordAt_e ft fw a 5 5 118 1 0).1 = 1 ∧ zM1 ft a b) ∨ ((fq_wordAt_e ft fw a 5 5 118 1 0).1 = 0 ∧ ¬ zM1 ft a b) := by
  rw [fq_wordAt_e, if_neg (by decide), if_neg (by decide), show ((5 : Int32) + 0).toNatClampNeg = 5 from rfl, zW5 h]
  by_cases c0 : (102 : Int32) = ft ((a + 0).toNatClampNeg)
  case neg =>
    rw [if_neg c0, fq_wordAt_e]
    refine Or.inr ⟨?_, fun z => c0 (z.2.1).symm⟩
    by_cases q : (5 : Int32) ≤ 0 + 1
    · rw [if_pos q]
    · rw [if_neg q, if_pos rfl]
  rw [if_pos c0, show (0 : Int32) + 1 = 1 from rfl]
  rw [fq_wordAt_e, if_neg (by decide), if_neg (by decide), show ((5 : Int32) + 1).toNatClampNeg = 6 from rfl, zW6 h]
  by_cases c1 : (101 : Int32) = ft ((a + 1).toNatClampNeg)
  case neg =>
    rw [if_neg c1, fq_wordAt_e]
    refine Or.inr ⟨?_, fun z => c1 (z.2.2.1).symm⟩
    by_cases q : (5 : Int32) ≤ 1 + 1
    · rw [if_pos q]
    · rw [if_neg q, if_pos rfl]
  rw [if_pos c1, show (1 : Int32) + 1 = 2 from rfl]
  rw [fq_wordAt_e, if_neg (by decide), if_neg (by decide), show ((5 : Int32) + 2).toNatClampNeg = 7 from rfl, zW7 h]
  by_cases c2 : (97 : Int32) = ft ((a + 2).toNatClampNeg)
  case neg =>
    rw [if_neg c2, fq_wordAt_e]
    refine Or.inr ⟨?_, fun z => c2 (z.2.2.2.1).symm⟩
    by_cases q : (5 : Int32) ≤ 2 + 1
    · rw [if_pos q]
    · rw [if_neg q, if_pos rfl]
  rw [if_pos c2, show (2 : Int32) + 1 = 3 from rfl]
  rw [fq_wordAt_e, if_neg (by decide), if_neg (by decide), show ((5 : Int32) + 3).toNatClampNeg = 8 from rfl, zW8 h]
  by_cases c3 : (115 : Int32) = ft ((a + 3).toNatClampNeg)
  case neg =>
    rw [if_neg c3, fq_wordAt_e]
    refine Or.inr ⟨?_, fun z => c3 (z.2.2.2.2.1).symm⟩
    by_cases q : (5 : Int32) ≤ 3 + 1
    · rw [if_pos q]
    · rw [if_neg q, if_pos rfl]
  rw [if_pos c3, show (3 : Int32) + 1 = 4 from rfl]
  rw [fq_wordAt_e, if_neg (by decide), if_neg (by decide), show ((5 : Int32) + 4).toNatClampNeg = 9 from rfl, zW9 h]
  by_cases c4 : (116 : Int32) = ft ((a + 4).toNatClampNeg)
  case neg =>
    rw [if_neg c4, fq_wordAt_e]
    refine Or.inr ⟨?_, fun z => c4 (z.2.2.2.2.2).symm⟩
    by_cases q : (5 : Int32) ≤ 4 + 1
    · rw [if_pos q]
    · rw [if_neg q, if_pos rfl]
  rw [if_pos c4, show (4 : Int32) + 1 = 5 from rfl]
  rw [fq_wordAt_e, if_pos (by decide)]
  exact Or.inl ⟨rfl, hb, c0.symm, c1.symm, c2.symm, c3.symm, c4.symm⟩
theorem zc1 {ft fw : Nat → Int32} {a b : Int32} (h : zWd fw) : (zM1 ft a b ∧ fq_wordAt_c ft fw a b 117 1 5 = 1) ∨ (¬ zM1 ft a b ∧ fq_wordAt_c ft fw a b 117 1 5 = fq_wordAt_c ft fw a b 116 2 11) := by
  rw [fq_wordAt_c, if_neg (by decide), xL_eq, zd1 h, show (5 : Int32) + (5 + 1) = 11 from rfl, show (1 : Int32) + 1 = 2 from rfl]
  by_cases c : (5 : Int32) = b - a
  · rw [if_pos c, xL_eq]
    rcases ze1 (ft := ft) h c.symm with ⟨e, q⟩ | ⟨e, q⟩
    · rw [e, if_neg (by decide)]; exact Or.inl ⟨q, rfl⟩
    · rw [e, if_pos rfl]; exact Or.inr ⟨q, rfl⟩
  · rw [if_neg c, xL_eq, show fq_wordAt_e ft fw a 5 5 118 0 0 = (0, 0) from by rw [fq_wordAt_e, if_neg (by decide), if_pos rfl], if_pos rfl]
    exact Or.inr ⟨fun q => c q.1.symm, rfl⟩
theorem zk1 {ft : Nat → Int32} {a b : Int32} (a0 : ¬ a < 0) (a9 : a ≤ 900) (b9 : b ≤ 900) (b0 : ¬ b < a) (hs : ∀ k : Int32, ¬ k < a → k < b → ¬ ft k.toNatClampNeg < 97 ∧ ft k.toNatClampNeg ≤ 122) : zM1 ft a b ↔ fq_packed ft a b = 206622336 := by
  constructor
  · intro hm
    have hb := hm.1
    rw [zpd a0 a9]
    rw [show zE ft a b 0 = 6 from by rw [zE, if_neg (by lia), hm.2.1]; rfl]
    rw [show zE ft a b 1 = 5 from by rw [zE, if_neg (by lia), hm.2.2.1]; rfl]
    rw [show zE ft a b 2 = 1 from by rw [zE, if_neg (by lia), hm.2.2.2.1]; rfl]
    rw [show zE ft a b 3 = 19 from by rw [zE, if_neg (by lia), hm.2.2.2.2.1]; rfl]
    rw [show zE ft a b 4 = 20 from by rw [zE, if_neg (by lia), hm.2.2.2.2.2]; rfl]
    rw [show zE ft a b 5 = 0 from by rw [zE, if_pos (by lia)]]
    rfl
  · intro hc
    obtain ⟨E0, E1, E2, E3, E4, E5, l0, l1, l2, l3, l4, l5, g0, g1, g2, g3, g4, g5, hn⟩ := zpn a0 a9 hs
    rw [hc, show ((206622336 : Int32)).toBitVec.toNat = 206622336 from rfl] at hn
    have v0 : zE ft a b 0 = 6 := by
      have z : E0 = 6 := by omega
      rw [z] at g0
      exact zEq g0 (by decide)
    have x0 := zEr hs a0 a9 0 (by decide) (by decide)
    rw [v0] at x0
    have v1 : zE ft a b 1 = 5 := by
      have z : E1 = 5 := by omega
      rw [z] at g1
      exact zEq g1 (by decide)
    have x1 := zEr hs a0 a9 1 (by decide) (by decide)
    rw [v1] at x1
    have v2 : zE ft a b 2 = 1 := by
      have z : E2 = 1 := by omega
      rw [z] at g2
      exact zEq g2 (by decide)
    have x2 := zEr hs a0 a9 2 (by decide) (by decide)
    rw [v2] at x2
    have v3 : zE ft a b 3 = 19 := by
      have z : E3 = 19 := by omega
      rw [z] at g3
      exact zEq g3 (by decide)
    have x3 := zEr hs a0 a9 3 (by decide) (by decide)
    rw [v3] at x3
    have v4 : zE ft a b 4 = 20 := by
      have z : E4 = 20 := by omega
      rw [z] at g4
      exact zEq g4 (by decide)
    have x4 := zEr hs a0 a9 4 (by decide) (by decide)
    rw [v4] at x4
    have v5 : zE ft a b 5 = 0 := by
      have z : E5 = 0 := by omega
      rw [z] at g5
      exact zEq g5 (by decide)
    have x5 := zEr hs a0 a9 5 (by decide) (by decide)
    rw [v5] at x5
    have y0 : ¬ b ≤ a + 0 ∧ ft ((a + 0).toNatClampNeg) = 102 := by
      rcases x0 with q | q
      · exact absurd q.2 (by decide)
      · exact ⟨q.1, by have q2 := q.2.1; lia⟩
    have y1 : ¬ b ≤ a + 1 ∧ ft ((a + 1).toNatClampNeg) = 101 := by
      rcases x1 with q | q
      · exact absurd q.2 (by decide)
      · exact ⟨q.1, by have q2 := q.2.1; lia⟩
    have y2 : ¬ b ≤ a + 2 ∧ ft ((a + 2).toNatClampNeg) = 97 := by
      rcases x2 with q | q
      · exact absurd q.2 (by decide)
      · exact ⟨q.1, by have q2 := q.2.1; lia⟩
    have y3 : ¬ b ≤ a + 3 ∧ ft ((a + 3).toNatClampNeg) = 115 := by
      rcases x3 with q | q
      · exact absurd q.2 (by decide)
      · exact ⟨q.1, by have q2 := q.2.1; lia⟩
    have y4 : ¬ b ≤ a + 4 ∧ ft ((a + 4).toNatClampNeg) = 116 := by
      rcases x4 with q | q
      · exact absurd q.2 (by decide)
      · exact ⟨q.1, by have q2 := q.2.1; lia⟩
    have y5 : b ≤ a + 5 := by
      rcases x5 with q | q
      · exact q.1
      · exact absurd q.2.2.1 (by decide)
    have y6 : b - a = 5 := by have u := y4.1; lia
    exact ⟨y6, y0.2, y1.2, y2.2, y3.2, y4.2⟩
def zM2 (ft : Nat → Int32) (a b : Int32) : Prop := b - a = 6 ∧ ft ((a + 0).toNatClampNeg) = 112 ∧ ft ((a + 1).toNatClampNeg) = 101 ∧ ft ((a + 2).toNatClampNeg) = 114 ∧ ft ((a + 3).toNatClampNeg) = 115 ∧ ft ((a + 4).toNatClampNeg) = 111 ∧ ft ((a + 5).toNatClampNeg) = 110
theorem zd2 {fw : Nat → Int32} (h : zWd fw) : fq_wordAt_d fw 11 118 0 = 6 := by
  rw [fq_wordAt_d, show ((11 : Int32) + 0).toNatClampNeg = 11 from rfl, zW11 h, if_neg (by decide), show (0 : Int32) + 1 = 1 from rfl]
  rw [fq_wordAt_d, show ((11 : Int32) + 1).toNatClampNeg = 12 from rfl, zW12 h, if_neg (by decide), show (1 : Int32) + 1 = 2 from rfl]
  rw [fq_wordAt_d, show ((11 : Int32) + 2).toNatClampNeg = 13 from rfl, zW13 h, if_neg (by decide), show (2 : Int32) + 1 = 3 from rfl]
  rw [fq_wordAt_d, show ((11 : Int32) + 3).toNatClampNeg = 14 from rfl, zW14 h, if_neg (by decide), show (3 : Int32) + 1 = 4 from rfl]
  rw [fq_wordAt_d, show ((11 : Int32) + 4).toNatClampNeg = 15 from rfl, zW15 h, if_neg (by decide), show (4 : Int32) + 1 = 5 from rfl]
  rw [fq_wordAt_d, show ((11 : Int32) + 5).toNatClampNeg = 16 from rfl, zW16 h, if_neg (by decide), show (5 : Int32) + 1 = 6 from rfl]
  rw [fq_wordAt_d, show ((11 : Int32) + 6).toNatClampNeg = 17 from rfl, zW17 h, if_pos rfl]
theorem ze2 {ft fw : Nat → Int32} {a b : Int32} (h : zWd fw) (hb : b - a = 6) : ((fq_wordAt_e ft fw a 11 6 118 1 0).1 = 1 ∧ zM2 ft a b) ∨ ((fq_wordAt_e ft fw a 11 6 118 1 0).1 = 0 ∧ ¬ zM2 ft a b) := by
  rw [fq_wordAt_e, if_neg (by decide), if_neg (by decide), show ((11 : Int32) + 0).toNatClampNeg = 11 from rfl, zW11 h]
  by_cases c0 : (112 : Int32) = ft ((a + 0).toNatClampNeg)
  case neg =>
    rw [if_neg c0, fq_wordAt_e]
    refine Or.inr ⟨?_, fun z => c0 (z.2.1).symm⟩
    by_cases q : (6 : Int32) ≤ 0 + 1
    · rw [if_pos q]
    · rw [if_neg q, if_pos rfl]
  rw [if_pos c0, show (0 : Int32) + 1 = 1 from rfl]
  rw [fq_wordAt_e, if_neg (by decide), if_neg (by decide), show ((11 : Int32) + 1).toNatClampNeg = 12 from rfl, zW12 h]
  by_cases c1 : (101 : Int32) = ft ((a + 1).toNatClampNeg)
  case neg =>
    rw [if_neg c1, fq_wordAt_e]
    refine Or.inr ⟨?_, fun z => c1 (z.2.2.1).symm⟩
    by_cases q : (6 : Int32) ≤ 1 + 1
    · rw [if_pos q]
    · rw [if_neg q, if_pos rfl]
  rw [if_pos c1, show (1 : Int32) + 1 = 2 from rfl]
  rw [fq_wordAt_e, if_neg (by decide), if_neg (by decide), show ((11 : Int32) + 2).toNatClampNeg = 13 from rfl, zW13 h]
  by_cases c2 : (114 : Int32) = ft ((a + 2).toNatClampNeg)
  case neg =>
    rw [if_neg c2, fq_wordAt_e]
    refine Or.inr ⟨?_, fun z => c2 (z.2.2.2.1).symm⟩
    by_cases q : (6 : Int32) ≤ 2 + 1
    · rw [if_pos q]
    · rw [if_neg q, if_pos rfl]
  rw [if_pos c2, show (2 : Int32) + 1 = 3 from rfl]
  rw [fq_wordAt_e, if_neg (by decide), if_neg (by decide), show ((11 : Int32) + 3).toNatClampNeg = 14 from rfl, zW14 h]
  by_cases c3 : (115 : Int32) = ft ((a + 3).toNatClampNeg)
  case neg =>
    rw [if_neg c3, fq_wordAt_e]
    refine Or.inr ⟨?_, fun z => c3 (z.2.2.2.2.1).symm⟩
    by_cases q : (6 : Int32) ≤ 3 + 1
    · rw [if_pos q]
    · rw [if_neg q, if_pos rfl]
  rw [if_pos c3, show (3 : Int32) + 1 = 4 from rfl]
  rw [fq_wordAt_e, if_neg (by decide), if_neg (by decide), show ((11 : Int32) + 4).toNatClampNeg = 15 from rfl, zW15 h]
  by_cases c4 : (111 : Int32) = ft ((a + 4).toNatClampNeg)
  case neg =>
    rw [if_neg c4, fq_wordAt_e]
    refine Or.inr ⟨?_, fun z => c4 (z.2.2.2.2.2.1).symm⟩
    by_cases q : (6 : Int32) ≤ 4 + 1
    · rw [if_pos q]
    · rw [if_neg q, if_pos rfl]
  rw [if_pos c4, show (4 : Int32) + 1 = 5 from rfl]
  rw [fq_wordAt_e, if_neg (by decide), if_neg (by decide), show ((11 : Int32) + 5).toNatClampNeg = 16 from rfl, zW16 h]
  by_cases c5 : (110 : Int32) = ft ((a + 5).toNatClampNeg)
  case neg =>
    rw [if_neg c5, fq_wordAt_e]
    refine Or.inr ⟨?_, fun z => c5 (z.2.2.2.2.2.2).symm⟩
    by_cases q : (6 : Int32) ≤ 5 + 1
    · rw [if_pos q]
    · rw [if_neg q, if_pos rfl]
  rw [if_pos c5, show (5 : Int32) + 1 = 6 from rfl]
  rw [fq_wordAt_e, if_pos (by decide)]
  exact Or.inl ⟨rfl, hb, c0.symm, c1.symm, c2.symm, c3.symm, c4.symm, c5.symm⟩
theorem zc2 {ft fw : Nat → Int32} {a b : Int32} (h : zWd fw) : (zM2 ft a b ∧ fq_wordAt_c ft fw a b 116 2 11 = 2) ∨ (¬ zM2 ft a b ∧ fq_wordAt_c ft fw a b 116 2 11 = fq_wordAt_c ft fw a b 115 3 18) := by
  rw [fq_wordAt_c, if_neg (by decide), xL_eq, zd2 h, show (11 : Int32) + (6 + 1) = 18 from rfl, show (2 : Int32) + 1 = 3 from rfl]
  by_cases c : (6 : Int32) = b - a
  · rw [if_pos c, xL_eq]
    rcases ze2 (ft := ft) h c.symm with ⟨e, q⟩ | ⟨e, q⟩
    · rw [e, if_neg (by decide)]; exact Or.inl ⟨q, rfl⟩
    · rw [e, if_pos rfl]; exact Or.inr ⟨q, rfl⟩
  · rw [if_neg c, xL_eq, show fq_wordAt_e ft fw a 11 6 118 0 0 = (0, 0) from by rw [fq_wordAt_e, if_neg (by decide), if_pos rfl], if_pos rfl]
    exact Or.inr ⟨fun q => c q.1.symm, rfl⟩
theorem zk2 {ft : Nat → Int32} {a b : Int32} (a0 : ¬ a < 0) (a9 : a ≤ 900) (b9 : b ≤ 900) (b0 : ¬ b < a) (h6 : ¬ b ≤ a + 5 → b - a = 6) (hs : ∀ k : Int32, ¬ k < a → k < b → ¬ ft k.toNatClampNeg < 97 ∧ ft k.toNatClampNeg ≤ 122) : zM2 ft a b ↔ fq_packed ft a b = 542723566 := by
  constructor
  · intro hm
    have hb := hm.1
    rw [zpd a0 a9]
    rw [show zE ft a b 0 = 16 from by rw [zE, if_neg (by lia), hm.2.1]; rfl]
    rw [show zE ft a b 1 = 5 from by rw [zE, if_neg (by lia), hm.2.2.1]; rfl]
    rw [show zE ft a b 2 = 18 from by rw [zE, if_neg (by lia), hm.2.2.2.1]; rfl]
    rw [show zE ft a b 3 = 19 from by rw [zE, if_neg (by lia), hm.2.2.2.2.1]; rfl]
    rw [show zE ft a b 4 = 15 from by rw [zE, if_neg (by lia), hm.2.2.2.2.2.1]; rfl]
    rw [show zE ft a b 5 = 14 from by rw [zE, if_neg (by lia), hm.2.2.2.2.2.2]; rfl]
    rfl
  · intro hc
    obtain ⟨E0, E1, E2, E3, E4, E5, l0, l1, l2, l3, l4, l5, g0, g1, g2, g3, g4, g5, hn⟩ := zpn a0 a9 hs
    rw [hc, show ((542723566 : Int32)).toBitVec.toNat = 542723566 from rfl] at hn
    have v0 : zE ft a b 0 = 16 := by
      have z : E0 = 16 := by omega
      rw [z] at g0
      exact zEq g0 (by decide)
    have x0 := zEr hs a0 a9 0 (by decide) (by decide)
    rw [v0] at x0
    have v1 : zE ft a b 1 = 5 := by
      have z : E1 = 5 := by omega
      rw [z] at g1
      exact zEq g1 (by decide)
    have x1 := zEr hs a0 a9 1 (by decide) (by decide)
    rw [v1] at x1
    have v2 : zE ft a b 2 = 18 := by
      have z : E2 = 18 := by omega
      rw [z] at g2
      exact zEq g2 (by decide)
    have x2 := zEr hs a0 a9 2 (by decide) (by decide)
    rw [v2] at x2
    have v3 : zE ft a b 3 = 19 := by
      have z : E3 = 19 := by omega
      rw [z] at g3
      exact zEq g3 (by decide)
    have x3 := zEr hs a0 a9 3 (by decide) (by decide)
    rw [v3] at x3
    have v4 : zE ft a b 4 = 15 := by
      have z : E4 = 15 := by omega
      rw [z] at g4
      exact zEq g4 (by decide)
    have x4 := zEr hs a0 a9 4 (by decide) (by decide)
    rw [v4] at x4
    have v5 : zE ft a b 5 = 14 := by
      have z : E5 = 14 := by omega
      rw [z] at g5
      exact zEq g5 (by decide)
    have x5 := zEr hs a0 a9 5 (by decide) (by decide)
    rw [v5] at x5
    have y0 : ¬ b ≤ a + 0 ∧ ft ((a + 0).toNatClampNeg) = 112 := by
      rcases x0 with q | q
      · exact absurd q.2 (by decide)
      · exact ⟨q.1, by have q2 := q.2.1; lia⟩
    have y1 : ¬ b ≤ a + 1 ∧ ft ((a + 1).toNatClampNeg) = 101 := by
      rcases x1 with q | q
      · exact absurd q.2 (by decide)
      · exact ⟨q.1, by have q2 := q.2.1; lia⟩
    have y2 : ¬ b ≤ a + 2 ∧ ft ((a + 2).toNatClampNeg) = 114 := by
      rcases x2 with q | q
      · exact absurd q.2 (by decide)
      · exact ⟨q.1, by have q2 := q.2.1; lia⟩
    have y3 : ¬ b ≤ a + 3 ∧ ft ((a + 3).toNatClampNeg) = 115 := by
      rcases x3 with q | q
      · exact absurd q.2 (by decide)
      · exact ⟨q.1, by have q2 := q.2.1; lia⟩
    have y4 : ¬ b ≤ a + 4 ∧ ft ((a + 4).toNatClampNeg) = 111 := by
      rcases x4 with q | q
      · exact absurd q.2 (by decide)
      · exact ⟨q.1, by have q2 := q.2.1; lia⟩
    have y5 : ¬ b ≤ a + 5 ∧ ft ((a + 5).toNatClampNeg) = 110 := by
      rcases x5 with q | q
      · exact absurd q.2 (by decide)
      · exact ⟨q.1, by have q2 := q.2.1; lia⟩
    exact ⟨h6 y5.1, y0.2, y1.2, y2.2, y3.2, y4.2, y5.2⟩
def zM3 (ft : Nat → Int32) (a b : Int32) : Prop := b - a = 4 ∧ ft ((a + 0).toNatClampNeg) = 100 ∧ ft ((a + 1).toNatClampNeg) = 101 ∧ ft ((a + 2).toNatClampNeg) = 101 ∧ ft ((a + 3).toNatClampNeg) = 100
theorem zd3 {fw : Nat → Int32} (h : zWd fw) : fq_wordAt_d fw 18 118 0 = 4 := by
  rw [fq_wordAt_d, show ((18 : Int32) + 0).toNatClampNeg = 18 from rfl, zW18 h, if_neg (by decide), show (0 : Int32) + 1 = 1 from rfl]
  rw [fq_wordAt_d, show ((18 : Int32) + 1).toNatClampNeg = 19 from rfl, zW19 h, if_neg (by decide), show (1 : Int32) + 1 = 2 from rfl]
  rw [fq_wordAt_d, show ((18 : Int32) + 2).toNatClampNeg = 20 from rfl, zW20 h, if_neg (by decide), show (2 : Int32) + 1 = 3 from rfl]
  rw [fq_wordAt_d, show ((18 : Int32) + 3).toNatClampNeg = 21 from rfl, zW21 h, if_neg (by decide), show (3 : Int32) + 1 = 4 from rfl]
  rw [fq_wordAt_d, show ((18 : Int32) + 4).toNatClampNeg = 22 from rfl, zW22 h, if_pos rfl]
theorem ze3 {ft fw : Nat → Int32} {a b : Int32} (h : zWd fw) (hb : b - a = 4) : ((fq_wordAt_e ft fw a 18 4 118 1 0).1 = 1 ∧ zM3 ft a b) ∨ ((fq_wordAt_e ft fw a 18 4 118 1 0).1 = 0 ∧ ¬ zM3 ft a b) := by
  rw [fq_wordAt_e, if_neg (by decide), if_neg (by decide), show ((18 : Int32) + 0).toNatClampNeg = 18 from rfl, zW18 h]
  by_cases c0 : (100 : Int32) = ft ((a + 0).toNatClampNeg)
  case neg =>
    rw [if_neg c0, fq_wordAt_e]
    refine Or.inr ⟨?_, fun z => c0 (z.2.1).symm⟩
    by_cases q : (4 : Int32) ≤ 0 + 1
    · rw [if_pos q]
    · rw [if_neg q, if_pos rfl]
  rw [if_pos c0, show (0 : Int32) + 1 = 1 from rfl]
  rw [fq_wordAt_e, if_neg (by decide), if_neg (by decide), show ((18 : Int32) + 1).toNatClampNeg = 19 from rfl, zW19 h]
  by_cases c1 : (101 : Int32) = ft ((a + 1).toNatClampNeg)
  case neg =>
    rw [if_neg c1, fq_wordAt_e]
    refine Or.inr ⟨?_, fun z => c1 (z.2.2.1).symm⟩
    by_cases q : (4 : Int32) ≤ 1 + 1
    · rw [if_pos q]
    · rw [if_neg q, if_pos rfl]
  rw [if_pos c1, show (1 : Int32) + 1 = 2 from rfl]
  rw [fq_wordAt_e, if_neg (by decide), if_neg (by decide), show ((18 : Int32) + 2).toNatClampNeg = 20 from rfl, zW20 h]
  by_cases c2 : (101 : Int32) = ft ((a + 2).toNatClampNeg)
  case neg =>
    rw [if_neg c2, fq_wordAt_e]
    refine Or.inr ⟨?_, fun z => c2 (z.2.2.2.1).symm⟩
    by_cases q : (4 : Int32) ≤ 2 + 1
    · rw [if_pos q]
    · rw [if_neg q, if_pos rfl]
  rw [if_pos c2, show (2 : Int32) + 1 = 3 from rfl]
  rw [fq_wordAt_e, if_neg (by decide), if_neg (by decide), show ((18 : Int32) + 3).toNatClampNeg = 21 from rfl, zW21 h]
  by_cases c3 : (100 : Int32) = ft ((a + 3).toNatClampNeg)
  case neg =>
    rw [if_neg c3, fq_wordAt_e]
    refine Or.inr ⟨?_, fun z => c3 (z.2.2.2.2).symm⟩
    by_cases q : (4 : Int32) ≤ 3 + 1
    · rw [if_pos q]
    · rw [if_neg q, if_pos rfl]
  rw [if_pos c3, show (3 : Int32) + 1 = 4 from rfl]
  rw [fq_wordAt_e, if_pos (by decide)]
  exact Or.inl ⟨rfl, hb, c0.symm, c1.symm, c2.symm, c3.symm⟩
theorem zc3 {ft fw : Nat → Int32} {a b : Int32} (h : zWd fw) : (zM3 ft a b ∧ fq_wordAt_c ft fw a b 115 3 18 = 3) ∨ (¬ zM3 ft a b ∧ fq_wordAt_c ft fw a b 115 3 18 = fq_wordAt_c ft fw a b 114 4 23) := by
  rw [fq_wordAt_c, if_neg (by decide), xL_eq, zd3 h, show (18 : Int32) + (4 + 1) = 23 from rfl, show (3 : Int32) + 1 = 4 from rfl]
  by_cases c : (4 : Int32) = b - a
  · rw [if_pos c, xL_eq]
    rcases ze3 (ft := ft) h c.symm with ⟨e, q⟩ | ⟨e, q⟩
    · rw [e, if_neg (by decide)]; exact Or.inl ⟨q, rfl⟩
    · rw [e, if_pos rfl]; exact Or.inr ⟨q, rfl⟩
  · rw [if_neg c, xL_eq, show fq_wordAt_e ft fw a 18 4 118 0 0 = (0, 0) from by rw [fq_wordAt_e, if_neg (by decide), if_pos rfl], if_pos rfl]
    exact Or.inr ⟨fun q => c q.1.symm, rfl⟩
theorem zk3 {ft : Nat → Int32} {a b : Int32} (a0 : ¬ a < 0) (a9 : a ≤ 900) (b9 : b ≤ 900) (b0 : ¬ b < a) (hs : ∀ k : Int32, ¬ k < a → k < b → ¬ ft k.toNatClampNeg < 97 ∧ ft k.toNatClampNeg ≤ 122) : zM3 ft a b ↔ fq_packed ft a b = 139628544 := by
  constructor
  · intro hm
    have hb := hm.1
    rw [zpd a0 a9]
    rw [show zE ft a b 0 = 4 from by rw [zE, if_neg (by lia), hm.2.1]; rfl]
    rw [show zE ft a b 1 = 5 from by rw [zE, if_neg (by lia), hm.2.2.1]; rfl]
    rw [show zE ft a b 2 = 5 from by rw [zE, if_neg (by lia), hm.2.2.2.1]; rfl]
    rw [show zE ft a b 3 = 4 from by rw [zE, if_neg (by lia), hm.2.2.2.2]; rfl]
    rw [show zE ft a b 4 = 0 from by rw [zE, if_pos (by lia)]]
    rw [show zE ft a b 5 = 0 from by rw [zE, if_pos (by lia)]]
    rfl
  · intro hc
    obtain ⟨E0, E1, E2, E3, E4, E5, l0, l1, l2, l3, l4, l5, g0, g1, g2, g3, g4, g5, hn⟩ := zpn a0 a9 hs
    rw [hc, show ((139628544 : Int32)).toBitVec.toNat = 139628544 from rfl] at hn
    have v0 : zE ft a b 0 = 4 := by
      have z : E0 = 4 := by omega
      rw [z] at g0
      exact zEq g0 (by decide)
    have x0 := zEr hs a0 a9 0 (by decide) (by decide)
    rw [v0] at x0
    have v1 : zE ft a b 1 = 5 := by
      have z : E1 = 5 := by omega
      rw [z] at g1
      exact zEq g1 (by decide)
    have x1 := zEr hs a0 a9 1 (by decide) (by decide)
    rw [v1] at x1
    have v2 : zE ft a b 2 = 5 := by
      have z : E2 = 5 := by omega
      rw [z] at g2
      exact zEq g2 (by decide)
    have x2 := zEr hs a0 a9 2 (by decide) (by decide)
    rw [v2] at x2
    have v3 : zE ft a b 3 = 4 := by
      have z : E3 = 4 := by omega
      rw [z] at g3
      exact zEq g3 (by decide)
    have x3 := zEr hs a0 a9 3 (by decide) (by decide)
    rw [v3] at x3
    have v4 : zE ft a b 4 = 0 := by
      have z : E4 = 0 := by omega
      rw [z] at g4
      exact zEq g4 (by decide)
    have x4 := zEr hs a0 a9 4 (by decide) (by decide)
    rw [v4] at x4
    have v5 : zE ft a b 5 = 0 := by
      have z : E5 = 0 := by omega
      rw [z] at g5
      exact zEq g5 (by decide)
    have x5 := zEr hs a0 a9 5 (by decide) (by decide)
    rw [v5] at x5
    have y0 : ¬ b ≤ a + 0 ∧ ft ((a + 0).toNatClampNeg) = 100 := by
      rcases x0 with q | q
      · exact absurd q.2 (by decide)
      · exact ⟨q.1, by have q2 := q.2.1; lia⟩
    have y1 : ¬ b ≤ a + 1 ∧ ft ((a + 1).toNatClampNeg) = 101 := by
      rcases x1 with q | q
      · exact absurd q.2 (by decide)
      · exact ⟨q.1, by have q2 := q.2.1; lia⟩
    have y2 : ¬ b ≤ a + 2 ∧ ft ((a + 2).toNatClampNeg) = 101 := by
      rcases x2 with q | q
      · exact absurd q.2 (by decide)
      · exact ⟨q.1, by have q2 := q.2.1; lia⟩
    have y3 : ¬ b ≤ a + 3 ∧ ft ((a + 3).toNatClampNeg) = 100 := by
      rcases x3 with q | q
      · exact absurd q.2 (by decide)
      · exact ⟨q.1, by have q2 := q.2.1; lia⟩
    have y4 : b ≤ a + 4 := by
      rcases x4 with q | q
      · exact q.1
      · exact absurd q.2.2.1 (by decide)
    have y6 : b - a = 4 := by have u := y3.1; lia
    exact ⟨y6, y0.2, y1.2, y2.2, y3.2⟩
def zM4 (ft : Nat → Int32) (a b : Int32) : Prop := b - a = 4 ∧ ft ((a + 0).toNatClampNeg) = 110 ∧ ft ((a + 1).toNatClampNeg) = 111 ∧ ft ((a + 2).toNatClampNeg) = 116 ∧ ft ((a + 3).toNatClampNeg) = 101
theorem zd4 {fw : Nat → Int32} (h : zWd fw) : fq_wordAt_d fw 23 118 0 = 4 := by
  rw [fq_wordAt_d, show ((23 : Int32) + 0).toNatClampNeg = 23 from rfl, zW23 h, if_neg (by decide), show (0 : Int32) + 1 = 1 from rfl]
  rw [fq_wordAt_d, show ((23 : Int32) + 1).toNatClampNeg = 24 from rfl, zW24 h, if_neg (by decide), show (1 : Int32) + 1 = 2 from rfl]
  rw [fq_wordAt_d, show ((23 : Int32) + 2).toNatClampNeg = 25 from rfl, zW25 h, if_neg (by decide), show (2 : Int32) + 1 = 3 from rfl]
  rw [fq_wordAt_d, show ((23 : Int32) + 3).toNatClampNeg = 26 from rfl, zW26 h, if_neg (by decide), show (3 : Int32) + 1 = 4 from rfl]
  rw [fq_wordAt_d, show ((23 : Int32) + 4).toNatClampNeg = 27 from rfl, zW27 h, if_pos rfl]
theorem ze4 {ft fw : Nat → Int32} {a b : Int32} (h : zWd fw) (hb : b - a = 4) : ((fq_wordAt_e ft fw a 23 4 118 1 0).1 = 1 ∧ zM4 ft a b) ∨ ((fq_wordAt_e ft fw a 23 4 118 1 0).1 = 0 ∧ ¬ zM4 ft a b) := by
  rw [fq_wordAt_e, if_neg (by decide), if_neg (by decide), show ((23 : Int32) + 0).toNatClampNeg = 23 from rfl, zW23 h]
  by_cases c0 : (110 : Int32) = ft ((a + 0).toNatClampNeg)
  case neg =>
    rw [if_neg c0, fq_wordAt_e]
    refine Or.inr ⟨?_, fun z => c0 (z.2.1).symm⟩
    by_cases q : (4 : Int32) ≤ 0 + 1
    · rw [if_pos q]
    · rw [if_neg q, if_pos rfl]
  rw [if_pos c0, show (0 : Int32) + 1 = 1 from rfl]
  rw [fq_wordAt_e, if_neg (by decide), if_neg (by decide), show ((23 : Int32) + 1).toNatClampNeg = 24 from rfl, zW24 h]
  by_cases c1 : (111 : Int32) = ft ((a + 1).toNatClampNeg)
  case neg =>
    rw [if_neg c1, fq_wordAt_e]
    refine Or.inr ⟨?_, fun z => c1 (z.2.2.1).symm⟩
    by_cases q : (4 : Int32) ≤ 1 + 1
    · rw [if_pos q]
    · rw [if_neg q, if_pos rfl]
  rw [if_pos c1, show (1 : Int32) + 1 = 2 from rfl]
  rw [fq_wordAt_e, if_neg (by decide), if_neg (by decide), show ((23 : Int32) + 2).toNatClampNeg = 25 from rfl, zW25 h]
  by_cases c2 : (116 : Int32) = ft ((a + 2).toNatClampNeg)
  case neg =>
    rw [if_neg c2, fq_wordAt_e]
    refine Or.inr ⟨?_, fun z => c2 (z.2.2.2.1).symm⟩
    by_cases q : (4 : Int32) ≤ 2 + 1
    · rw [if_pos q]
    · rw [if_neg q, if_pos rfl]
  rw [if_pos c2, show (2 : Int32) + 1 = 3 from rfl]
  rw [fq_wordAt_e, if_neg (by decide), if_neg (by decide), show ((23 : Int32) + 3).toNatClampNeg = 26 from rfl, zW26 h]
  by_cases c3 : (101 : Int32) = ft ((a + 3).toNatClampNeg)
  case neg =>
    rw [if_neg c3, fq_wordAt_e]
    refine Or.inr ⟨?_, fun z => c3 (z.2.2.2.2).symm⟩
    by_cases q : (4 : Int32) ≤ 3 + 1
    · rw [if_pos q]
    · rw [if_neg q, if_pos rfl]
  rw [if_pos c3, show (3 : Int32) + 1 = 4 from rfl]
  rw [fq_wordAt_e, if_pos (by decide)]
  exact Or.inl ⟨rfl, hb, c0.symm, c1.symm, c2.symm, c3.symm⟩
theorem zc4 {ft fw : Nat → Int32} {a b : Int32} (h : zWd fw) : (zM4 ft a b ∧ fq_wordAt_c ft fw a b 114 4 23 = 4) ∨ (¬ zM4 ft a b ∧ fq_wordAt_c ft fw a b 114 4 23 = fq_wordAt_c ft fw a b 113 5 28) := by
  rw [fq_wordAt_c, if_neg (by decide), xL_eq, zd4 h, show (23 : Int32) + (4 + 1) = 28 from rfl, show (4 : Int32) + 1 = 5 from rfl]
  by_cases c : (4 : Int32) = b - a
  · rw [if_pos c, xL_eq]
    rcases ze4 (ft := ft) h c.symm with ⟨e, q⟩ | ⟨e, q⟩
    · rw [e, if_neg (by decide)]; exact Or.inl ⟨q, rfl⟩
    · rw [e, if_pos rfl]; exact Or.inr ⟨q, rfl⟩
  · rw [if_neg c, xL_eq, show fq_wordAt_e ft fw a 23 4 118 0 0 = (0, 0) from by rw [fq_wordAt_e, if_neg (by decide), if_pos rfl], if_pos rfl]
    exact Or.inr ⟨fun q => c q.1.symm, rfl⟩
theorem zk4 {ft : Nat → Int32} {a b : Int32} (a0 : ¬ a < 0) (a9 : a ≤ 900) (b9 : b ≤ 900) (b0 : ¬ b < a) (hs : ∀ k : Int32, ¬ k < a → k < b → ¬ ft k.toNatClampNeg < 97 ∧ ft k.toNatClampNeg ≤ 122) : zM4 ft a b ↔ fq_packed ft a b = 486151168 := by
  constructor
  · intro hm
    have hb := hm.1
    rw [zpd a0 a9]
    rw [show zE ft a b 0 = 14 from by rw [zE, if_neg (by lia), hm.2.1]; rfl]
    rw [show zE ft a b 1 = 15 from by rw [zE, if_neg (by lia), hm.2.2.1]; rfl]
    rw [show zE ft a b 2 = 20 from by rw [zE, if_neg (by lia), hm.2.2.2.1]; rfl]
    rw [show zE ft a b 3 = 5 from by rw [zE, if_neg (by lia), hm.2.2.2.2]; rfl]
    rw [show zE ft a b 4 = 0 from by rw [zE, if_pos (by lia)]]
    rw [show zE ft a b 5 = 0 from by rw [zE, if_pos (by lia)]]
    rfl
  · intro hc
    obtain ⟨E0, E1, E2, E3, E4, E5, l0, l1, l2, l3, l4, l5, g0, g1, g2, g3, g4, g5, hn⟩ := zpn a0 a9 hs
    rw [hc, show ((486151168 : Int32)).toBitVec.toNat = 486151168 from rfl] at hn
    have v0 : zE ft a b 0 = 14 := by
      have z : E0 = 14 := by omega
      rw [z] at g0
      exact zEq g0 (by decide)
    have x0 := zEr hs a0 a9 0 (by decide) (by decide)
    rw [v0] at x0
    have v1 : zE ft a b 1 = 15 := by
      have z : E1 = 15 := by omega
      rw [z] at g1
      exact zEq g1 (by decide)
    have x1 := zEr hs a0 a9 1 (by decide) (by decide)
    rw [v1] at x1
    have v2 : zE ft a b 2 = 20 := by
      have z : E2 = 20 := by omega
      rw [z] at g2
      exact zEq g2 (by decide)
    have x2 := zEr hs a0 a9 2 (by decide) (by decide)
    rw [v2] at x2
    have v3 : zE ft a b 3 = 5 := by
      have z : E3 = 5 := by omega
      rw [z] at g3
      exact zEq g3 (by decide)
    have x3 := zEr hs a0 a9 3 (by decide) (by decide)
    rw [v3] at x3
    have v4 : zE ft a b 4 = 0 := by
      have z : E4 = 0 := by omega
      rw [z] at g4
      exact zEq g4 (by decide)
    have x4 := zEr hs a0 a9 4 (by decide) (by decide)
    rw [v4] at x4
    have v5 : zE ft a b 5 = 0 := by
      have z : E5 = 0 := by omega
      rw [z] at g5
      exact zEq g5 (by decide)
    have x5 := zEr hs a0 a9 5 (by decide) (by decide)
    rw [v5] at x5
    have y0 : ¬ b ≤ a + 0 ∧ ft ((a + 0).toNatClampNeg) = 110 := by
      rcases x0 with q | q
      · exact absurd q.2 (by decide)
      · exact ⟨q.1, by have q2 := q.2.1; lia⟩
    have y1 : ¬ b ≤ a + 1 ∧ ft ((a + 1).toNatClampNeg) = 111 := by
      rcases x1 with q | q
      · exact absurd q.2 (by decide)
      · exact ⟨q.1, by have q2 := q.2.1; lia⟩
    have y2 : ¬ b ≤ a + 2 ∧ ft ((a + 2).toNatClampNeg) = 116 := by
      rcases x2 with q | q
      · exact absurd q.2 (by decide)
      · exact ⟨q.1, by have q2 := q.2.1; lia⟩
    have y3 : ¬ b ≤ a + 3 ∧ ft ((a + 3).toNatClampNeg) = 101 := by
      rcases x3 with q | q
      · exact absurd q.2 (by decide)
      · exact ⟨q.1, by have q2 := q.2.1; lia⟩
    have y4 : b ≤ a + 4 := by
      rcases x4 with q | q
      · exact q.1
      · exact absurd q.2.2.1 (by decide)
    have y6 : b - a = 4 := by have u := y3.1; lia
    exact ⟨y6, y0.2, y1.2, y2.2, y3.2⟩
def zM5 (ft : Nat → Int32) (a b : Int32) : Prop := b - a = 3 ∧ ft ((a + 0).toNatClampNeg) = 115 ∧ ft ((a + 1).toNatClampNeg) = 117 ∧ ft ((a + 2).toNatClampNeg) = 110
theorem zd5 {fw : Nat → Int32} (h : zWd fw) : fq_wordAt_d fw 28 118 0 = 3 := by
  rw [fq_wordAt_d, show ((28 : Int32) + 0).toNatClampNeg = 28 from rfl, zW28 h, if_neg (by decide), show (0 : Int32) + 1 = 1 from rfl]
  rw [fq_wordAt_d, show ((28 : Int32) + 1).toNatClampNeg = 29 from rfl, zW29 h, if_neg (by decide), show (1 : Int32) + 1 = 2 from rfl]
  rw [fq_wordAt_d, show ((28 : Int32) + 2).toNatClampNeg = 30 from rfl, zW30 h, if_neg (by decide), show (2 : Int32) + 1 = 3 from rfl]
  rw [fq_wordAt_d, show ((28 : Int32) + 3).toNatClampNeg = 31 from rfl, zW31 h, if_pos rfl]
theorem ze5 {ft fw : Nat → Int32} {a b : Int32} (h : zWd fw) (hb : b - a = 3) : ((fq_wordAt_e ft fw a 28 3 118 1 0).1 = 1 ∧ zM5 ft a b) ∨ ((fq_wordAt_e ft fw a 28 3 118 1 0).1 = 0 ∧ ¬ zM5 ft a b) := by
  rw [fq_wordAt_e, if_neg (by decide), if_neg (by decide), show ((28 : Int32) + 0).toNatClampNeg = 28 from rfl, zW28 h]
  by_cases c0 : (115 : Int32) = ft ((a + 0).toNatClampNeg)
  case neg =>
    rw [if_neg c0, fq_wordAt_e]
    refine Or.inr ⟨?_, fun z => c0 (z.2.1).symm⟩
    by_cases q : (3 : Int32) ≤ 0 + 1
    · rw [if_pos q]
    · rw [if_neg q, if_pos rfl]
  rw [if_pos c0, show (0 : Int32) + 1 = 1 from rfl]
  rw [fq_wordAt_e, if_neg (by decide), if_neg (by decide), show ((28 : Int32) + 1).toNatClampNeg = 29 from rfl, zW29 h]
  by_cases c1 : (117 : Int32) = ft ((a + 1).toNatClampNeg)
  case neg =>
    rw [if_neg c1, fq_wordAt_e]
    refine Or.inr ⟨?_, fun z => c1 (z.2.2.1).symm⟩
    by_cases q : (3 : Int32) ≤ 1 + 1
    · rw [if_pos q]
    · rw [if_neg q, if_pos rfl]
  rw [if_pos c1, show (1 : Int32) + 1 = 2 from rfl]
  rw [fq_wordAt_e, if_neg (by decide), if_neg (by decide), show ((28 : Int32) + 2).toNatClampNeg = 30 from rfl, zW30 h]
  by_cases c2 : (110 : Int32) = ft ((a + 2).toNatClampNeg)
  case neg =>
    rw [if_neg c2, fq_wordAt_e]
    refine Or.inr ⟨?_, fun z => c2 (z.2.2.2).symm⟩
    by_cases q : (3 : Int32) ≤ 2 + 1
    · rw [if_pos q]
    · rw [if_neg q, if_pos rfl]
  rw [if_pos c2, show (2 : Int32) + 1 = 3 from rfl]
  rw [fq_wordAt_e, if_pos (by decide)]
  exact Or.inl ⟨rfl, hb, c0.symm, c1.symm, c2.symm⟩
theorem zc5 {ft fw : Nat → Int32} {a b : Int32} (h : zWd fw) : (zM5 ft a b ∧ fq_wordAt_c ft fw a b 113 5 28 = 5) ∨ (¬ zM5 ft a b ∧ fq_wordAt_c ft fw a b 113 5 28 = fq_wordAt_c ft fw a b 112 6 32) := by
  rw [fq_wordAt_c, if_neg (by decide), xL_eq, zd5 h, show (28 : Int32) + (3 + 1) = 32 from rfl, show (5 : Int32) + 1 = 6 from rfl]
  by_cases c : (3 : Int32) = b - a
  · rw [if_pos c, xL_eq]
    rcases ze5 (ft := ft) h c.symm with ⟨e, q⟩ | ⟨e, q⟩
    · rw [e, if_neg (by decide)]; exact Or.inl ⟨q, rfl⟩
    · rw [e, if_pos rfl]; exact Or.inr ⟨q, rfl⟩
  · rw [if_neg c, xL_eq, show fq_wordAt_e ft fw a 28 3 118 0 0 = (0, 0) from by rw [fq_wordAt_e, if_neg (by decide), if_pos rfl], if_pos rfl]
    exact Or.inr ⟨fun q => c q.1.symm, rfl⟩
theorem zk5 {ft : Nat → Int32} {a b : Int32} (a0 : ¬ a < 0) (a9 : a ≤ 900) (b9 : b ≤ 900) (b0 : ¬ b < a) (hs : ∀ k : Int32, ¬ k < a → k < b → ¬ ft k.toNatClampNeg < 97 ∧ ft k.toNatClampNeg ≤ 122) : zM5 ft a b ↔ fq_packed ft a b = 660013056 := by
  constructor
  · intro hm
    have hb := hm.1
    rw [zpd a0 a9]
    rw [show zE ft a b 0 = 19 from by rw [zE, if_neg (by lia), hm.2.1]; rfl]
    rw [show zE ft a b 1 = 21 from by rw [zE, if_neg (by lia), hm.2.2.1]; rfl]
    rw [show zE ft a b 2 = 14 from by rw [zE, if_neg (by lia), hm.2.2.2]; rfl]
    rw [show zE ft a b 3 = 0 from by rw [zE, if_pos (by lia)]]
    rw [show zE ft a b 4 = 0 from by rw [zE, if_pos (by lia)]]
    rw [show zE ft a b 5 = 0 from by rw [zE, if_pos (by lia)]]
    rfl
  · intro hc
    obtain ⟨E0, E1, E2, E3, E4, E5, l0, l1, l2, l3, l4, l5, g0, g1, g2, g3, g4, g5, hn⟩ := zpn a0 a9 hs
    rw [hc, show ((660013056 : Int32)).toBitVec.toNat = 660013056 from rfl] at hn
    have v0 : zE ft a b 0 = 19 := by
      have z : E0 = 19 := by omega
      rw [z] at g0
      exact zEq g0 (by decide)
    have x0 := zEr hs a0 a9 0 (by decide) (by decide)
    rw [v0] at x0
    have v1 : zE ft a b 1 = 21 := by
      have z : E1 = 21 := by omega
      rw [z] at g1
      exact zEq g1 (by decide)
    have x1 := zEr hs a0 a9 1 (by decide) (by decide)
    rw [v1] at x1
    have v2 : zE ft a b 2 = 14 := by
      have z : E2 = 14 := by omega
      rw [z] at g2
      exact zEq g2 (by decide)
    have x2 := zEr hs a0 a9 2 (by decide) (by decide)
    rw [v2] at x2
    have v3 : zE ft a b 3 = 0 := by
      have z : E3 = 0 := by omega
      rw [z] at g3
      exact zEq g3 (by decide)
    have x3 := zEr hs a0 a9 3 (by decide) (by decide)
    rw [v3] at x3
    have v4 : zE ft a b 4 = 0 := by
      have z : E4 = 0 := by omega
      rw [z] at g4
      exact zEq g4 (by decide)
    have x4 := zEr hs a0 a9 4 (by decide) (by decide)
    rw [v4] at x4
    have v5 : zE ft a b 5 = 0 := by
      have z : E5 = 0 := by omega
      rw [z] at g5
      exact zEq g5 (by decide)
    have x5 := zEr hs a0 a9 5 (by decide) (by decide)
    rw [v5] at x5
    have y0 : ¬ b ≤ a + 0 ∧ ft ((a + 0).toNatClampNeg) = 115 := by
      rcases x0 with q | q
      · exact absurd q.2 (by decide)
      · exact ⟨q.1, by have q2 := q.2.1; lia⟩
    have y1 : ¬ b ≤ a + 1 ∧ ft ((a + 1).toNatClampNeg) = 117 := by
      rcases x1 with q | q
      · exact absurd q.2 (by decide)
      · exact ⟨q.1, by have q2 := q.2.1; lia⟩
    have y2 : ¬ b ≤ a + 2 ∧ ft ((a + 2).toNatClampNeg) = 110 := by
      rcases x2 with q | q
      · exact absurd q.2 (by decide)
      · exact ⟨q.1, by have q2 := q.2.1; lia⟩
    have y3 : b ≤ a + 3 := by
      rcases x3 with q | q
      · exact q.1
      · exact absurd q.2.2.1 (by decide)
    have y6 : b - a = 3 := by have u := y2.1; lia
    exact ⟨y6, y0.2, y1.2, y2.2⟩
def zM6 (ft : Nat → Int32) (a b : Int32) : Prop := b - a = 4 ∧ ft ((a + 0).toNatClampNeg) = 119 ∧ ft ((a + 1).toNatClampNeg) = 101 ∧ ft ((a + 2).toNatClampNeg) = 101 ∧ ft ((a + 3).toNatClampNeg) = 107
theorem zd6 {fw : Nat → Int32} (h : zWd fw) : fq_wordAt_d fw 32 118 0 = 4 := by
  rw [fq_wordAt_d, show ((32 : Int32) + 0).toNatClampNeg = 32 from rfl, zW32 h, if_neg (by decide), show (0 : Int32) + 1 = 1 from rfl]
  rw [fq_wordAt_d, show ((32 : Int32) + 1).toNatClampNeg = 33 from rfl, zW33 h, if_neg (by decide), show (1 : Int32) + 1 = 2 from rfl]
  rw [fq_wordAt_d, show ((32 : Int32) + 2).toNatClampNeg = 34 from rfl, zW34 h, if_neg (by decide), show (2 : Int32) + 1 = 3 from rfl]
  rw [fq_wordAt_d, show ((32 : Int32) + 3).toNatClampNeg = 35 from rfl, zW35 h, if_neg (by decide), show (3 : Int32) + 1 = 4 from rfl]
  rw [fq_wordAt_d, show ((32 : Int32) + 4).toNatClampNeg = 36 from rfl, zW36 h, if_pos rfl]
theorem ze6 {ft fw : Nat → Int32} {a b : Int32} (h : zWd fw) (hb : b - a = 4) : ((fq_wordAt_e ft fw a 32 4 118 1 0).1 = 1 ∧ zM6 ft a b) ∨ ((fq_wordAt_e ft fw a 32 4 118 1 0).1 = 0 ∧ ¬ zM6 ft a b) := by
  rw [fq_wordAt_e, if_neg (by decide), if_neg (by decide), show ((32 : Int32) + 0).toNatClampNeg = 32 from rfl, zW32 h]
  by_cases c0 : (119 : Int32) = ft ((a + 0).toNatClampNeg)
  case neg =>
    rw [if_neg c0, fq_wordAt_e]
    refine Or.inr ⟨?_, fun z => c0 (z.2.1).symm⟩
    by_cases q : (4 : Int32) ≤ 0 + 1
    · rw [if_pos q]
    · rw [if_neg q, if_pos rfl]
  rw [if_pos c0, show (0 : Int32) + 1 = 1 from rfl]
  rw [fq_wordAt_e, if_neg (by decide), if_neg (by decide), show ((32 : Int32) + 1).toNatClampNeg = 33 from rfl, zW33 h]
  by_cases c1 : (101 : Int32) = ft ((a + 1).toNatClampNeg)
  case neg =>
    rw [if_neg c1, fq_wordAt_e]
    refine Or.inr ⟨?_, fun z => c1 (z.2.2.1).symm⟩
    by_cases q : (4 : Int32) ≤ 1 + 1
    · rw [if_pos q]
    · rw [if_neg q, if_pos rfl]
  rw [if_pos c1, show (1 : Int32) + 1 = 2 from rfl]
  rw [fq_wordAt_e, if_neg (by decide), if_neg (by decide), show ((32 : Int32) + 2).toNatClampNeg = 34 from rfl, zW34 h]
  by_cases c2 : (101 : Int32) = ft ((a + 2).toNatClampNeg)
  case neg =>
    rw [if_neg c2, fq_wordAt_e]
    refine Or.inr ⟨?_, fun z => c2 (z.2.2.2.1).symm⟩
    by_cases q : (4 : Int32) ≤ 2 + 1
    · rw [if_pos q]
    · rw [if_neg q, if_pos rfl]
  rw [if_pos c2, show (2 : Int32) + 1 = 3 from rfl]
  rw [fq_wordAt_e, if_neg (by decide), if_neg (by decide), show ((32 : Int32) + 3).toNatClampNeg = 35 from rfl, zW35 h]
  by_cases c3 : (107 : Int32) = ft ((a + 3).toNatClampNeg)
  case neg =>
    rw [if_neg c3, fq_wordAt_e]
    refine Or.inr ⟨?_, fun z => c3 (z.2.2.2.2).symm⟩
    by_cases q : (4 : Int32) ≤ 3 + 1
    · rw [if_pos q]
    · rw [if_neg q, if_pos rfl]
  rw [if_pos c3, show (3 : Int32) + 1 = 4 from rfl]
  rw [fq_wordAt_e, if_pos (by decide)]
  exact Or.inl ⟨rfl, hb, c0.symm, c1.symm, c2.symm, c3.symm⟩
theorem zc6 {ft fw : Nat → Int32} {a b : Int32} (h : zWd fw) : (zM6 ft a b ∧ fq_wordAt_c ft fw a b 112 6 32 = 6) ∨ (¬ zM6 ft a b ∧ fq_wordAt_c ft fw a b 112 6 32 = fq_wordAt_c ft fw a b 111 7 37) := by
  rw [fq_wordAt_c, if_neg (by decide), xL_eq, zd6 h, show (32 : Int32) + (4 + 1) = 37 from rfl, show (6 : Int32) + 1 = 7 from rfl]
  by_cases c : (4 : Int32) = b - a
  · rw [if_pos c, xL_eq]
    rcases ze6 (ft := ft) h c.symm with ⟨e, q⟩ | ⟨e, q⟩
    · rw [e, if_neg (by decide)]; exact Or.inl ⟨q, rfl⟩
    · rw [e, if_pos rfl]; exact Or.inr ⟨q, rfl⟩
  · rw [if_neg c, xL_eq, show fq_wordAt_e ft fw a 32 4 118 0 0 = (0, 0) from by rw [fq_wordAt_e, if_neg (by decide), if_pos rfl], if_pos rfl]
    exact Or.inr ⟨fun q => c q.1.symm, rfl⟩
theorem zk6 {ft : Nat → Int32} {a b : Int32} (a0 : ¬ a < 0) (a9 : a ≤ 900) (b9 : b ≤ 900) (b0 : ¬ b < a) (hs : ∀ k : Int32, ¬ k < a → k < b → ¬ ft k.toNatClampNeg < 97 ∧ ft k.toNatClampNeg ≤ 122) : zM6 ft a b ↔ fq_packed ft a b = 777169920 := by
  constructor
  · intro hm
    have hb := hm.1
    rw [zpd a0 a9]
    rw [show zE ft a b 0 = 23 from by rw [zE, if_neg (by lia), hm.2.1]; rfl]
    rw [show zE ft a b 1 = 5 from by rw [zE, if_neg (by lia), hm.2.2.1]; rfl]
    rw [show zE ft a b 2 = 5 from by rw [zE, if_neg (by lia), hm.2.2.2.1]; rfl]
    rw [show zE ft a b 3 = 11 from by rw [zE, if_neg (by lia), hm.2.2.2.2]; rfl]
    rw [show zE ft a b 4 = 0 from by rw [zE, if_pos (by lia)]]
    rw [show zE ft a b 5 = 0 from by rw [zE, if_pos (by lia)]]
    rfl
  · intro hc
    obtain ⟨E0, E1, E2, E3, E4, E5, l0, l1, l2, l3, l4, l5, g0, g1, g2, g3, g4, g5, hn⟩ := zpn a0 a9 hs
    rw [hc, show ((777169920 : Int32)).toBitVec.toNat = 777169920 from rfl] at hn
    have v0 : zE ft a b 0 = 23 := by
      have z : E0 = 23 := by omega
      rw [z] at g0
      exact zEq g0 (by decide)
    have x0 := zEr hs a0 a9 0 (by decide) (by decide)
    rw [v0] at x0
    have v1 : zE ft a b 1 = 5 := by
      have z : E1 = 5 := by omega
      rw [z] at g1
      exact zEq g1 (by decide)
    have x1 := zEr hs a0 a9 1 (by decide) (by decide)
    rw [v1] at x1
    have v2 : zE ft a b 2 = 5 := by
      have z : E2 = 5 := by omega
      rw [z] at g2
      exact zEq g2 (by decide)
    have x2 := zEr hs a0 a9 2 (by decide) (by decide)
    rw [v2] at x2
    have v3 : zE ft a b 3 = 11 := by
      have z : E3 = 11 := by omega
      rw [z] at g3
      exact zEq g3 (by decide)
    have x3 := zEr hs a0 a9 3 (by decide) (by decide)
    rw [v3] at x3
    have v4 : zE ft a b 4 = 0 := by
      have z : E4 = 0 := by omega
      rw [z] at g4
      exact zEq g4 (by decide)
    have x4 := zEr hs a0 a9 4 (by decide) (by decide)
    rw [v4] at x4
    have v5 : zE ft a b 5 = 0 := by
      have z : E5 = 0 := by omega
      rw [z] at g5
      exact zEq g5 (by decide)
    have x5 := zEr hs a0 a9 5 (by decide) (by decide)
    rw [v5] at x5
    have y0 : ¬ b ≤ a + 0 ∧ ft ((a + 0).toNatClampNeg) = 119 := by
      rcases x0 with q | q
      · exact absurd q.2 (by decide)
      · exact ⟨q.1, by have q2 := q.2.1; lia⟩
    have y1 : ¬ b ≤ a + 1 ∧ ft ((a + 1).toNatClampNeg) = 101 := by
      rcases x1 with q | q
      · exact absurd q.2 (by decide)
      · exact ⟨q.1, by have q2 := q.2.1; lia⟩
    have y2 : ¬ b ≤ a + 2 ∧ ft ((a + 2).toNatClampNeg) = 101 := by
      rcases x2 with q | q
      · exact absurd q.2 (by decide)
      · exact ⟨q.1, by have q2 := q.2.1; lia⟩
    have y3 : ¬ b ≤ a + 3 ∧ ft ((a + 3).toNatClampNeg) = 107 := by
      rcases x3 with q | q
      · exact absurd q.2 (by decide)
      · exact ⟨q.1, by have q2 := q.2.1; lia⟩
    have y4 : b ≤ a + 4 := by
      rcases x4 with q | q
      · exact q.1
      · exact absurd q.2.2.1 (by decide)
    have y6 : b - a = 4 := by have u := y3.1; lia
    exact ⟨y6, y0.2, y1.2, y2.2, y3.2⟩
def zM7 (ft : Nat → Int32) (a b : Int32) : Prop := b - a = 4 ∧ ft ((a + 0).toNatClampNeg) = 109 ∧ ft ((a + 1).toNatClampNeg) = 111 ∧ ft ((a + 2).toNatClampNeg) = 111 ∧ ft ((a + 3).toNatClampNeg) = 110
theorem zd7 {fw : Nat → Int32} (h : zWd fw) : fq_wordAt_d fw 37 118 0 = 4 := by
  rw [fq_wordAt_d, show ((37 : Int32) + 0).toNatClampNeg = 37 from rfl, zW37 h, if_neg (by decide), show (0 : Int32) + 1 = 1 from rfl]
  rw [fq_wordAt_d, show ((37 : Int32) + 1).toNatClampNeg = 38 from rfl, zW38 h, if_neg (by decide), show (1 : Int32) + 1 = 2 from rfl]
  rw [fq_wordAt_d, show ((37 : Int32) + 2).toNatClampNeg = 39 from rfl, zW39 h, if_neg (by decide), show (2 : Int32) + 1 = 3 from rfl]
  rw [fq_wordAt_d, show ((37 : Int32) + 3).toNatClampNeg = 40 from rfl, zW40 h, if_neg (by decide), show (3 : Int32) + 1 = 4 from rfl]
  rw [fq_wordAt_d, show ((37 : Int32) + 4).toNatClampNeg = 41 from rfl, zW41 h, if_pos rfl]
theorem ze7 {ft fw : Nat → Int32} {a b : Int32} (h : zWd fw) (hb : b - a = 4) : ((fq_wordAt_e ft fw a 37 4 118 1 0).1 = 1 ∧ zM7 ft a b) ∨ ((fq_wordAt_e ft fw a 37 4 118 1 0).1 = 0 ∧ ¬ zM7 ft a b) := by
  rw [fq_wordAt_e, if_neg (by decide), if_neg (by decide), show ((37 : Int32) + 0).toNatClampNeg = 37 from rfl, zW37 h]
  by_cases c0 : (109 : Int32) = ft ((a + 0).toNatClampNeg)
  case neg =>
    rw [if_neg c0, fq_wordAt_e]
    refine Or.inr ⟨?_, fun z => c0 (z.2.1).symm⟩
    by_cases q : (4 : Int32) ≤ 0 + 1
    · rw [if_pos q]
    · rw [if_neg q, if_pos rfl]
  rw [if_pos c0, show (0 : Int32) + 1 = 1 from rfl]
  rw [fq_wordAt_e, if_neg (by decide), if_neg (by decide), show ((37 : Int32) + 1).toNatClampNeg = 38 from rfl, zW38 h]
  by_cases c1 : (111 : Int32) = ft ((a + 1).toNatClampNeg)
  case neg =>
    rw [if_neg c1, fq_wordAt_e]
    refine Or.inr ⟨?_, fun z => c1 (z.2.2.1).symm⟩
    by_cases q : (4 : Int32) ≤ 1 + 1
    · rw [if_pos q]
    · rw [if_neg q, if_pos rfl]
  rw [if_pos c1, show (1 : Int32) + 1 = 2 from rfl]
  rw [fq_wordAt_e, if_neg (by decide), if_neg (by decide), show ((37 : Int32) + 2).toNatClampNeg = 39 from rfl, zW39 h]
  by_cases c2 : (111 : Int32) = ft ((a + 2).toNatClampNeg)
  case neg =>
    rw [if_neg c2, fq_wordAt_e]
    refine Or.inr ⟨?_, fun z => c2 (z.2.2.2.1).symm⟩
    by_cases q : (4 : Int32) ≤ 2 + 1
    · rw [if_pos q]
    · rw [if_neg q, if_pos rfl]
  rw [if_pos c2, show (2 : Int32) + 1 = 3 from rfl]
  rw [fq_wordAt_e, if_neg (by decide), if_neg (by decide), show ((37 : Int32) + 3).toNatClampNeg = 40 from rfl, zW40 h]
  by_cases c3 : (110 : Int32) = ft ((a + 3).toNatClampNeg)
  case neg =>
    rw [if_neg c3, fq_wordAt_e]
    refine Or.inr ⟨?_, fun z => c3 (z.2.2.2.2).symm⟩
    by_cases q : (4 : Int32) ≤ 3 + 1
    · rw [if_pos q]
    · rw [if_neg q, if_pos rfl]
  rw [if_pos c3, show (3 : Int32) + 1 = 4 from rfl]
  rw [fq_wordAt_e, if_pos (by decide)]
  exact Or.inl ⟨rfl, hb, c0.symm, c1.symm, c2.symm, c3.symm⟩
theorem zc7 {ft fw : Nat → Int32} {a b : Int32} (h : zWd fw) : (zM7 ft a b ∧ fq_wordAt_c ft fw a b 111 7 37 = 7) ∨ (¬ zM7 ft a b ∧ fq_wordAt_c ft fw a b 111 7 37 = fq_wordAt_c ft fw a b 110 8 42) := by
  rw [fq_wordAt_c, if_neg (by decide), xL_eq, zd7 h, show (37 : Int32) + (4 + 1) = 42 from rfl, show (7 : Int32) + 1 = 8 from rfl]
  by_cases c : (4 : Int32) = b - a
  · rw [if_pos c, xL_eq]
    rcases ze7 (ft := ft) h c.symm with ⟨e, q⟩ | ⟨e, q⟩
    · rw [e, if_neg (by decide)]; exact Or.inl ⟨q, rfl⟩
    · rw [e, if_pos rfl]; exact Or.inr ⟨q, rfl⟩
  · rw [if_neg c, xL_eq, show fq_wordAt_e ft fw a 37 4 118 0 0 = (0, 0) from by rw [fq_wordAt_e, if_neg (by decide), if_pos rfl], if_pos rfl]
    exact Or.inr ⟨fun q => c q.1.symm, rfl⟩
theorem zk7 {ft : Nat → Int32} {a b : Int32} (a0 : ¬ a < 0) (a9 : a ≤ 900) (b9 : b ≤ 900) (b0 : ¬ b < a) (hs : ∀ k : Int32, ¬ k < a → k < b → ¬ ft k.toNatClampNeg < 97 ∧ ft k.toNatClampNeg ≤ 122) : zM7 ft a b ↔ fq_packed ft a b = 452442112 := by
  constructor
  · intro hm
    have hb := hm.1
    rw [zpd a0 a9]
    rw [show zE ft a b 0 = 13 from by rw [zE, if_neg (by lia), hm.2.1]; rfl]
    rw [show zE ft a b 1 = 15 from by rw [zE, if_neg (by lia), hm.2.2.1]; rfl]
    rw [show zE ft a b 2 = 15 from by rw [zE, if_neg (by lia), hm.2.2.2.1]; rfl]
    rw [show zE ft a b 3 = 14 from by rw [zE, if_neg (by lia), hm.2.2.2.2]; rfl]
    rw [show zE ft a b 4 = 0 from by rw [zE, if_pos (by lia)]]
    rw [show zE ft a b 5 = 0 from by rw [zE, if_pos (by lia)]]
    rfl
  · intro hc
    obtain ⟨E0, E1, E2, E3, E4, E5, l0, l1, l2, l3, l4, l5, g0, g1, g2, g3, g4, g5, hn⟩ := zpn a0 a9 hs
    rw [hc, show ((452442112 : Int32)).toBitVec.toNat = 452442112 from rfl] at hn
    have v0 : zE ft a b 0 = 13 := by
      have z : E0 = 13 := by omega
      rw [z] at g0
      exact zEq g0 (by decide)
    have x0 := zEr hs a0 a9 0 (by decide) (by decide)
    rw [v0] at x0
    have v1 : zE ft a b 1 = 15 := by
      have z : E1 = 15 := by omega
      rw [z] at g1
      exact zEq g1 (by decide)
    have x1 := zEr hs a0 a9 1 (by decide) (by decide)
    rw [v1] at x1
    have v2 : zE ft a b 2 = 15 := by
      have z : E2 = 15 := by omega
      rw [z] at g2
      exact zEq g2 (by decide)
    have x2 := zEr hs a0 a9 2 (by decide) (by decide)
    rw [v2] at x2
    have v3 : zE ft a b 3 = 14 := by
      have z : E3 = 14 := by omega
      rw [z] at g3
      exact zEq g3 (by decide)
    have x3 := zEr hs a0 a9 3 (by decide) (by decide)
    rw [v3] at x3
    have v4 : zE ft a b 4 = 0 := by
      have z : E4 = 0 := by omega
      rw [z] at g4
      exact zEq g4 (by decide)
    have x4 := zEr hs a0 a9 4 (by decide) (by decide)
    rw [v4] at x4
    have v5 : zE ft a b 5 = 0 := by
      have z : E5 = 0 := by omega
      rw [z] at g5
      exact zEq g5 (by decide)
    have x5 := zEr hs a0 a9 5 (by decide) (by decide)
    rw [v5] at x5
    have y0 : ¬ b ≤ a + 0 ∧ ft ((a + 0).toNatClampNeg) = 109 := by
      rcases x0 with q | q
      · exact absurd q.2 (by decide)
      · exact ⟨q.1, by have q2 := q.2.1; lia⟩
    have y1 : ¬ b ≤ a + 1 ∧ ft ((a + 1).toNatClampNeg) = 111 := by
      rcases x1 with q | q
      · exact absurd q.2 (by decide)
      · exact ⟨q.1, by have q2 := q.2.1; lia⟩
    have y2 : ¬ b ≤ a + 2 ∧ ft ((a + 2).toNatClampNeg) = 111 := by
      rcases x2 with q | q
      · exact absurd q.2 (by decide)
      · exact ⟨q.1, by have q2 := q.2.1; lia⟩
    have y3 : ¬ b ≤ a + 3 ∧ ft ((a + 3).toNatClampNeg) = 110 := by
      rcases x3 with q | q
      · exact absurd q.2 (by decide)
      · exact ⟨q.1, by have q2 := q.2.1; lia⟩
    have y4 : b ≤ a + 4 := by
      rcases x4 with q | q
      · exact q.1
      · exact absurd q.2.2.1 (by decide)
    have y6 : b - a = 4 := by have u := y3.1; lia
    exact ⟨y6, y0.2, y1.2, y2.2, y3.2⟩
def zM8 (ft : Nat → Int32) (a b : Int32) : Prop := b - a = 4 ∧ ft ((a + 0).toNatClampNeg) = 102 ∧ ft ((a + 1).toNatClampNeg) = 114 ∧ ft ((a + 2).toNatClampNeg) = 111 ∧ ft ((a + 3).toNatClampNeg) = 109
theorem zd8 {fw : Nat → Int32} (h : zWd fw) : fq_wordAt_d fw 42 118 0 = 4 := by
  rw [fq_wordAt_d, show ((42 : Int32) + 0).toNatClampNeg = 42 from rfl, zW42 h, if_neg (by decide), show (0 : Int32) + 1 = 1 from rfl]
  rw [fq_wordAt_d, show ((42 : Int32) + 1).toNatClampNeg = 43 from rfl, zW43 h, if_neg (by decide), show (1 : Int32) + 1 = 2 from rfl]
  rw [fq_wordAt_d, show ((42 : Int32) + 2).toNatClampNeg = 44 from rfl, zW44 h, if_neg (by decide), show (2 : Int32) + 1 = 3 from rfl]
  rw [fq_wordAt_d, show ((42 : Int32) + 3).toNatClampNeg = 45 from rfl, zW45 h, if_neg (by decide), show (3 : Int32) + 1 = 4 from rfl]
  rw [fq_wordAt_d, show ((42 : Int32) + 4).toNatClampNeg = 46 from rfl, zW46 h, if_pos rfl]
theorem ze8 {ft fw : Nat → Int32} {a b : Int32} (h : zWd fw) (hb : b - a = 4) : ((fq_wordAt_e ft fw a 42 4 118 1 0).1 = 1 ∧ zM8 ft a b) ∨ ((fq_wordAt_e ft fw a 42 4 118 1 0).1 = 0 ∧ ¬ zM8 ft a b) := by
  rw [fq_wordAt_e, if_neg (by decide), if_neg (by decide), show ((42 : Int32) + 0).toNatClampNeg = 42 from rfl, zW42 h]
  by_cases c0 : (102 : Int32) = ft ((a + 0).toNatClampNeg)
  case neg =>
    rw [if_neg c0, fq_wordAt_e]
    refine Or.inr ⟨?_, fun z => c0 (z.2.1).symm⟩
    by_cases q : (4 : Int32) ≤ 0 + 1
    · rw [if_pos q]
    · rw [if_neg q, if_pos rfl]
  rw [if_pos c0, show (0 : Int32) + 1 = 1 from rfl]
  rw [fq_wordAt_e, if_neg (by decide), if_neg (by decide), show ((42 : Int32) + 1).toNatClampNeg = 43 from rfl, zW43 h]
  by_cases c1 : (114 : Int32) = ft ((a + 1).toNatClampNeg)
  case neg =>
    rw [if_neg c1, fq_wordAt_e]
    refine Or.inr ⟨?_, fun z => c1 (z.2.2.1).symm⟩
    by_cases q : (4 : Int32) ≤ 1 + 1
    · rw [if_pos q]
    · rw [if_neg q, if_pos rfl]
  rw [if_pos c1, show (1 : Int32) + 1 = 2 from rfl]
  rw [fq_wordAt_e, if_neg (by decide), if_neg (by decide), show ((42 : Int32) + 2).toNatClampNeg = 44 from rfl, zW44 h]
  by_cases c2 : (111 : Int32) = ft ((a + 2).toNatClampNeg)
  case neg =>
    rw [if_neg c2, fq_wordAt_e]
    refine Or.inr ⟨?_, fun z => c2 (z.2.2.2.1).symm⟩
    by_cases q : (4 : Int32) ≤ 2 + 1
    · rw [if_pos q]
    · rw [if_neg q, if_pos rfl]
  rw [if_pos c2, show (2 : Int32) + 1 = 3 from rfl]
  rw [fq_wordAt_e, if_neg (by decide), if_neg (by decide), show ((42 : Int32) + 3).toNatClampNeg = 45 from rfl, zW45 h]
  by_cases c3 : (109 : Int32) = ft ((a + 3).toNatClampNeg)
  case neg =>
    rw [if_neg c3, fq_wordAt_e]
    refine Or.inr ⟨?_, fun z => c3 (z.2.2.2.2).symm⟩
    by_cases q : (4 : Int32) ≤ 3 + 1
    · rw [if_pos q]
    · rw [if_neg q, if_pos rfl]
  rw [if_pos c3, show (3 : Int32) + 1 = 4 from rfl]
  rw [fq_wordAt_e, if_pos (by decide)]
  exact Or.inl ⟨rfl, hb, c0.symm, c1.symm, c2.symm, c3.symm⟩
theorem zc8 {ft fw : Nat → Int32} {a b : Int32} (h : zWd fw) : (zM8 ft a b ∧ fq_wordAt_c ft fw a b 110 8 42 = 8) ∨ (¬ zM8 ft a b ∧ fq_wordAt_c ft fw a b 110 8 42 = fq_wordAt_c ft fw a b 109 9 47) := by
  rw [fq_wordAt_c, if_neg (by decide), xL_eq, zd8 h, show (42 : Int32) + (4 + 1) = 47 from rfl, show (8 : Int32) + 1 = 9 from rfl]
  by_cases c : (4 : Int32) = b - a
  · rw [if_pos c, xL_eq]
    rcases ze8 (ft := ft) h c.symm with ⟨e, q⟩ | ⟨e, q⟩
    · rw [e, if_neg (by decide)]; exact Or.inl ⟨q, rfl⟩
    · rw [e, if_pos rfl]; exact Or.inr ⟨q, rfl⟩
  · rw [if_neg c, xL_eq, show fq_wordAt_e ft fw a 42 4 118 0 0 = (0, 0) from by rw [fq_wordAt_e, if_neg (by decide), if_pos rfl], if_pos rfl]
    exact Or.inr ⟨fun q => c q.1.symm, rfl⟩
theorem zk8 {ft : Nat → Int32} {a b : Int32} (a0 : ¬ a < 0) (a9 : a ≤ 900) (b9 : b ≤ 900) (b0 : ¬ b < a) (hs : ∀ k : Int32, ¬ k < a → k < b → ¬ ft k.toNatClampNeg < 97 ∧ ft k.toNatClampNeg ≤ 122) : zM8 ft a b ↔ fq_packed ft a b = 220705792 := by
  constructor
  · intro hm
    have hb := hm.1
    rw [zpd a0 a9]
    rw [show zE ft a b 0 = 6 from by rw [zE, if_neg (by lia), hm.2.1]; rfl]
    rw [show zE ft a b 1 = 18 from by rw [zE, if_neg (by lia), hm.2.2.1]; rfl]
    rw [show zE ft a b 2 = 15 from by rw [zE, if_neg (by lia), hm.2.2.2.1]; rfl]
    rw [show zE ft a b 3 = 13 from by rw [zE, if_neg (by lia), hm.2.2.2.2]; rfl]
    rw [show zE ft a b 4 = 0 from by rw [zE, if_pos (by lia)]]
    rw [show zE ft a b 5 = 0 from by rw [zE, if_pos (by lia)]]
    rfl
  · intro hc
    obtain ⟨E0, E1, E2, E3, E4, E5, l0, l1, l2, l3, l4, l5, g0, g1, g2, g3, g4, g5, hn⟩ := zpn a0 a9 hs
    rw [hc, show ((220705792 : Int32)).toBitVec.toNat = 220705792 from rfl] at hn
    have v0 : zE ft a b 0 = 6 := by
      have z : E0 = 6 := by omega
      rw [z] at g0
      exact zEq g0 (by decide)
    have x0 := zEr hs a0 a9 0 (by decide) (by decide)
    rw [v0] at x0
    have v1 : zE ft a b 1 = 18 := by
      have z : E1 = 18 := by omega
      rw [z] at g1
      exact zEq g1 (by decide)
    have x1 := zEr hs a0 a9 1 (by decide) (by decide)
    rw [v1] at x1
    have v2 : zE ft a b 2 = 15 := by
      have z : E2 = 15 := by omega
      rw [z] at g2
      exact zEq g2 (by decide)
    have x2 := zEr hs a0 a9 2 (by decide) (by decide)
    rw [v2] at x2
    have v3 : zE ft a b 3 = 13 := by
      have z : E3 = 13 := by omega
      rw [z] at g3
      exact zEq g3 (by decide)
    have x3 := zEr hs a0 a9 3 (by decide) (by decide)
    rw [v3] at x3
    have v4 : zE ft a b 4 = 0 := by
      have z : E4 = 0 := by omega
      rw [z] at g4
      exact zEq g4 (by decide)
    have x4 := zEr hs a0 a9 4 (by decide) (by decide)
    rw [v4] at x4
    have v5 : zE ft a b 5 = 0 := by
      have z : E5 = 0 := by omega
      rw [z] at g5
      exact zEq g5 (by decide)
    have x5 := zEr hs a0 a9 5 (by decide) (by decide)
    rw [v5] at x5
    have y0 : ¬ b ≤ a + 0 ∧ ft ((a + 0).toNatClampNeg) = 102 := by
      rcases x0 with q | q
      · exact absurd q.2 (by decide)
      · exact ⟨q.1, by have q2 := q.2.1; lia⟩
    have y1 : ¬ b ≤ a + 1 ∧ ft ((a + 1).toNatClampNeg) = 114 := by
      rcases x1 with q | q
      · exact absurd q.2 (by decide)
      · exact ⟨q.1, by have q2 := q.2.1; lia⟩
    have y2 : ¬ b ≤ a + 2 ∧ ft ((a + 2).toNatClampNeg) = 111 := by
      rcases x2 with q | q
      · exact absurd q.2 (by decide)
      · exact ⟨q.1, by have q2 := q.2.1; lia⟩
    have y3 : ¬ b ≤ a + 3 ∧ ft ((a + 3).toNatClampNeg) = 109 := by
      rcases x3 with q | q
      · exact absurd q.2 (by decide)
      · exact ⟨q.1, by have q2 := q.2.1; lia⟩
    have y4 : b ≤ a + 4 := by
      rcases x4 with q | q
      · exact q.1
      · exact absurd q.2.2.1 (by decide)
    have y6 : b - a = 4 := by have u := y3.1; lia
    exact ⟨y6, y0.2, y1.2, y2.2, y3.2⟩
def zM9 (ft : Nat → Int32) (a b : Int32) : Prop := b - a = 4 ∧ ft ((a + 0).toNatClampNeg) = 100 ∧ ft ((a + 1).toNatClampNeg) = 105 ∧ ft ((a + 2).toNatClampNeg) = 101 ∧ ft ((a + 3).toNatClampNeg) = 100
theorem zd9 {fw : Nat → Int32} (h : zWd fw) : fq_wordAt_d fw 47 118 0 = 4 := by
  rw [fq_wordAt_d, show ((47 : Int32) + 0).toNatClampNeg = 47 from rfl, zW47 h, if_neg (by decide), show (0 : Int32) + 1 = 1 from rfl]
  rw [fq_wordAt_d, show ((47 : Int32) + 1).toNatClampNeg = 48 from rfl, zW48 h, if_neg (by decide), show (1 : Int32) + 1 = 2 from rfl]
  rw [fq_wordAt_d, show ((47 : Int32) + 2).toNatClampNeg = 49 from rfl, zW49 h, if_neg (by decide), show (2 : Int32) + 1 = 3 from rfl]
  rw [fq_wordAt_d, show ((47 : Int32) + 3).toNatClampNeg = 50 from rfl, zW50 h, if_neg (by decide), show (3 : Int32) + 1 = 4 from rfl]
  rw [fq_wordAt_d, show ((47 : Int32) + 4).toNatClampNeg = 51 from rfl, zW51 h, if_pos rfl]
theorem ze9 {ft fw : Nat → Int32} {a b : Int32} (h : zWd fw) (hb : b - a = 4) : ((fq_wordAt_e ft fw a 47 4 118 1 0).1 = 1 ∧ zM9 ft a b) ∨ ((fq_wordAt_e ft fw a 47 4 118 1 0).1 = 0 ∧ ¬ zM9 ft a b) := by
  rw [fq_wordAt_e, if_neg (by decide), if_neg (by decide), show ((47 : Int32) + 0).toNatClampNeg = 47 from rfl, zW47 h]
  by_cases c0 : (100 : Int32) = ft ((a + 0).toNatClampNeg)
  case neg =>
    rw [if_neg c0, fq_wordAt_e]
    refine Or.inr ⟨?_, fun z => c0 (z.2.1).symm⟩
    by_cases q : (4 : Int32) ≤ 0 + 1
    · rw [if_pos q]
    · rw [if_neg q, if_pos rfl]
  rw [if_pos c0, show (0 : Int32) + 1 = 1 from rfl]
  rw [fq_wordAt_e, if_neg (by decide), if_neg (by decide), show ((47 : Int32) + 1).toNatClampNeg = 48 from rfl, zW48 h]
  by_cases c1 : (105 : Int32) = ft ((a + 1).toNatClampNeg)
  case neg =>
    rw [if_neg c1, fq_wordAt_e]
    refine Or.inr ⟨?_, fun z => c1 (z.2.2.1).symm⟩
    by_cases q : (4 : Int32) ≤ 1 + 1
    · rw [if_pos q]
    · rw [if_neg q, if_pos rfl]
  rw [if_pos c1, show (1 : Int32) + 1 = 2 from rfl]
  rw [fq_wordAt_e, if_neg (by decide), if_neg (by decide), show ((47 : Int32) + 2).toNatClampNeg = 49 from rfl, zW49 h]
  by_cases c2 : (101 : Int32) = ft ((a + 2).toNatClampNeg)
  case neg =>
    rw [if_neg c2, fq_wordAt_e]
    refine Or.inr ⟨?_, fun z => c2 (z.2.2.2.1).symm⟩
    by_cases q : (4 : Int32) ≤ 2 + 1
    · rw [if_pos q]
    · rw [if_neg q, if_pos rfl]
  rw [if_pos c2, show (2 : Int32) + 1 = 3 from rfl]
  rw [fq_wordAt_e, if_neg (by decide), if_neg (by decide), show ((47 : Int32) + 3).toNatClampNeg = 50 from rfl, zW50 h]
  by_cases c3 : (100 : Int32) = ft ((a + 3).toNatClampNeg)
  case neg =>
    rw [if_neg c3, fq_wordAt_e]
    refine Or.inr ⟨?_, fun z => c3 (z.2.2.2.2).symm⟩
    by_cases q : (4 : Int32) ≤ 3 + 1
    · rw [if_pos q]
    · rw [if_neg q, if_pos rfl]
  rw [if_pos c3, show (3 : Int32) + 1 = 4 from rfl]
  rw [fq_wordAt_e, if_pos (by decide)]
  exact Or.inl ⟨rfl, hb, c0.symm, c1.symm, c2.symm, c3.symm⟩
theorem zc9 {ft fw : Nat → Int32} {a b : Int32} (h : zWd fw) : (zM9 ft a b ∧ fq_wordAt_c ft fw a b 109 9 47 = 9) ∨ (¬ zM9 ft a b ∧ fq_wordAt_c ft fw a b 109 9 47 = fq_wordAt_c ft fw a b 108 10 52) := by
  rw [fq_wordAt_c, if_neg (by decide), xL_eq, zd9 h, show (47 : Int32) + (4 + 1) = 52 from rfl, show (9 : Int32) + 1 = 10 from rfl]
  by_cases c : (4 : Int32) = b - a
  · rw [if_pos c, xL_eq]
    rcases ze9 (ft := ft) h c.symm with ⟨e, q⟩ | ⟨e, q⟩
    · rw [e, if_neg (by decide)]; exact Or.inl ⟨q, rfl⟩
    · rw [e, if_pos rfl]; exact Or.inr ⟨q, rfl⟩
  · rw [if_neg c, xL_eq, show fq_wordAt_e ft fw a 47 4 118 0 0 = (0, 0) from by rw [fq_wordAt_e, if_neg (by decide), if_pos rfl], if_pos rfl]
    exact Or.inr ⟨fun q => c q.1.symm, rfl⟩
theorem zk9 {ft : Nat → Int32} {a b : Int32} (a0 : ¬ a < 0) (a9 : a ≤ 900) (b9 : b ≤ 900) (b0 : ¬ b < a) (hs : ∀ k : Int32, ¬ k < a → k < b → ¬ ft k.toNatClampNeg < 97 ∧ ft k.toNatClampNeg ≤ 122) : zM9 ft a b ↔ fq_packed ft a b = 143822848 := by
  constructor
  · intro hm
    have hb := hm.1
    rw [zpd a0 a9]
    rw [show zE ft a b 0 = 4 from by rw [zE, if_neg (by lia), hm.2.1]; rfl]
    rw [show zE ft a b 1 = 9 from by rw [zE, if_neg (by lia), hm.2.2.1]; rfl]
    rw [show zE ft a b 2 = 5 from by rw [zE, if_neg (by lia), hm.2.2.2.1]; rfl]
    rw [show zE ft a b 3 = 4 from by rw [zE, if_neg (by lia), hm.2.2.2.2]; rfl]
    rw [show zE ft a b 4 = 0 from by rw [zE, if_pos (by lia)]]
    rw [show zE ft a b 5 = 0 from by rw [zE, if_pos (by lia)]]
    rfl
  · intro hc
    obtain ⟨E0, E1, E2, E3, E4, E5, l0, l1, l2, l3, l4, l5, g0, g1, g2, g3, g4, g5, hn⟩ := zpn a0 a9 hs
    rw [hc, show ((143822848 : Int32)).toBitVec.toNat = 143822848 from rfl] at hn
    have v0 : zE ft a b 0 = 4 := by
      have z : E0 = 4 := by omega
      rw [z] at g0
      exact zEq g0 (by decide)
    have x0 := zEr hs a0 a9 0 (by decide) (by decide)
    rw [v0] at x0
    have v1 : zE ft a b 1 = 9 := by
      have z : E1 = 9 := by omega
      rw [z] at g1
      exact zEq g1 (by decide)
    have x1 := zEr hs a0 a9 1 (by decide) (by decide)
    rw [v1] at x1
    have v2 : zE ft a b 2 = 5 := by
      have z : E2 = 5 := by omega
      rw [z] at g2
      exact zEq g2 (by decide)
    have x2 := zEr hs a0 a9 2 (by decide) (by decide)
    rw [v2] at x2
    have v3 : zE ft a b 3 = 4 := by
      have z : E3 = 4 := by omega
      rw [z] at g3
      exact zEq g3 (by decide)
    have x3 := zEr hs a0 a9 3 (by decide) (by decide)
    rw [v3] at x3
    have v4 : zE ft a b 4 = 0 := by
      have z : E4 = 0 := by omega
      rw [z] at g4
      exact zEq g4 (by decide)
    have x4 := zEr hs a0 a9 4 (by decide) (by decide)
    rw [v4] at x4
    have v5 : zE ft a b 5 = 0 := by
      have z : E5 = 0 := by omega
      rw [z] at g5
      exact zEq g5 (by decide)
    have x5 := zEr hs a0 a9 5 (by decide) (by decide)
    rw [v5] at x5
    have y0 : ¬ b ≤ a + 0 ∧ ft ((a + 0).toNatClampNeg) = 100 := by
      rcases x0 with q | q
      · exact absurd q.2 (by decide)
      · exact ⟨q.1, by have q2 := q.2.1; lia⟩
    have y1 : ¬ b ≤ a + 1 ∧ ft ((a + 1).toNatClampNeg) = 105 := by
      rcases x1 with q | q
      · exact absurd q.2 (by decide)
      · exact ⟨q.1, by have q2 := q.2.1; lia⟩
    have y2 : ¬ b ≤ a + 2 ∧ ft ((a + 2).toNatClampNeg) = 101 := by
      rcases x2 with q | q
      · exact absurd q.2 (by decide)
      · exact ⟨q.1, by have q2 := q.2.1; lia⟩
    have y3 : ¬ b ≤ a + 3 ∧ ft ((a + 3).toNatClampNeg) = 100 := by
      rcases x3 with q | q
      · exact absurd q.2 (by decide)
      · exact ⟨q.1, by have q2 := q.2.1; lia⟩
    have y4 : b ≤ a + 4 := by
      rcases x4 with q | q
      · exact q.1
      · exact absurd q.2.2.1 (by decide)
    have y6 : b - a = 4 := by have u := y3.1; lia
    exact ⟨y6, y0.2, y1.2, y2.2, y3.2⟩
def zM10 (ft : Nat → Int32) (a b : Int32) : Prop := b - a = 5 ∧ ft ((a + 0).toNatClampNeg) = 121 ∧ ft ((a + 1).toNatClampNeg) = 101 ∧ ft ((a + 2).toNatClampNeg) = 97 ∧ ft ((a + 3).toNatClampNeg) = 114 ∧ ft ((a + 4).toNatClampNeg) = 115
theorem zd10 {fw : Nat → Int32} (h : zWd fw) : fq_wordAt_d fw 52 118 0 = 5 := by
  rw [fq_wordAt_d, show ((52 : Int32) + 0).toNatClampNeg = 52 from rfl, zW52 h, if_neg (by decide), show (0 : Int32) + 1 = 1 from rfl]
  rw [fq_wordAt_d, show ((52 : Int32) + 1).toNatClampNeg = 53 from rfl, zW53 h, if_neg (by decide), show (1 : Int32) + 1 = 2 from rfl]
  rw [fq_wordAt_d, show ((52 : Int32) + 2).toNatClampNeg = 54 from rfl, zW54 h, if_neg (by decide), show (2 : Int32) + 1 = 3 from rfl]
  rw [fq_wordAt_d, show ((52 : Int32) + 3).toNatClampNeg = 55 from rfl, zW55 h, if_neg (by decide), show (3 : Int32) + 1 = 4 from rfl]
  rw [fq_wordAt_d, show ((52 : Int32) + 4).toNatClampNeg = 56 from rfl, zW56 h, if_neg (by decide), show (4 : Int32) + 1 = 5 from rfl]
  rw [fq_wordAt_d, show ((52 : Int32) + 5).toNatClampNeg = 57 from rfl, zW57 h, if_pos rfl]
theorem ze10 {ft fw : Nat → Int32} {a b : Int32} (h : zWd fw) (hb : b - a = 5) : ((fq_wordAt_e ft fw a 52 5 118 1 0).1 = 1 ∧ zM10 ft a b) ∨ ((fq_wordAt_e ft fw a 52 5 118 1 0).1 = 0 ∧ ¬ zM10 ft a b) := by
  rw [fq_wordAt_e, if_neg (by decide), if_neg (by decide), show ((52 : Int32) + 0).toNatClampNeg = 52 from rfl, zW52 h]
  by_cases c0 : (121 : Int32) = ft ((a + 0).toNatClampNeg)
  case neg =>
    rw [if_neg c0, fq_wordAt_e]
    refine Or.inr ⟨?_, fun z => c0 (z.2.1).symm⟩
    by_cases q : (5 : Int32) ≤ 0 + 1
    · rw [if_pos q]
    · rw [if_neg q, if_pos rfl]
  rw [if_pos c0, show (0 : Int32) + 1 = 1 from rfl]
  rw [fq_wordAt_e, if_neg (by decide), if_neg (by decide), show ((52 : Int32) + 1).toNatClampNeg = 53 from rfl, zW53 h]
  by_cases c1 : (101 : Int32) = ft ((a + 1).toNatClampNeg)
  case neg =>
    rw [if_neg c1, fq_wordAt_e]
    refine Or.inr ⟨?_, fun z => c1 (z.2.2.1).symm⟩
    by_cases q : (5 : Int32) ≤ 1 + 1
    · rw [if_pos q]
    · rw [if_neg q, if_pos rfl]
  rw [if_pos c1, show (1 : Int32) + 1 = 2 from rfl]
  rw [fq_wordAt_e, if_neg (by decide), if_neg (by decide), show ((52 : Int32) + 2).toNatClampNeg = 54 from rfl, zW54 h]
  by_cases c2 : (97 : Int32) = ft ((a + 2).toNatClampNeg)
  case neg =>
    rw [if_neg c2, fq_wordAt_e]
    refine Or.inr ⟨?_, fun z => c2 (z.2.2.2.1).symm⟩
    by_cases q : (5 : Int32) ≤ 2 + 1
    · rw [if_pos q]
    · rw [if_neg q, if_pos rfl]
  rw [if_pos c2, show (2 : Int32) + 1 = 3 from rfl]
  rw [fq_wordAt_e, if_neg (by decide), if_neg (by decide), show ((52 : Int32) + 3).toNatClampNeg = 55 from rfl, zW55 h]
  by_cases c3 : (114 : Int32) = ft ((a + 3).toNatClampNeg)
  case neg =>
    rw [if_neg c3, fq_wordAt_e]
    refine Or.inr ⟨?_, fun z => c3 (z.2.2.2.2.1).symm⟩
    by_cases q : (5 : Int32) ≤ 3 + 1
    · rw [if_pos q]
    · rw [if_neg q, if_pos rfl]
  rw [if_pos c3, show (3 : Int32) + 1 = 4 from rfl]
  rw [fq_wordAt_e, if_neg (by decide), if_neg (by decide), show ((52 : Int32) + 4).toNatClampNeg = 56 from rfl, zW56 h]
  by_cases c4 : (115 : Int32) = ft ((a + 4).toNatClampNeg)
  case neg =>
    rw [if_neg c4, fq_wordAt_e]
    refine Or.inr ⟨?_, fun z => c4 (z.2.2.2.2.2).symm⟩
    by_cases q : (5 : Int32) ≤ 4 + 1
    · rw [if_pos q]
    · rw [if_neg q, if_pos rfl]
  rw [if_pos c4, show (4 : Int32) + 1 = 5 from rfl]
  rw [fq_wordAt_e, if_pos (by decide)]
  exact Or.inl ⟨rfl, hb, c0.symm, c1.symm, c2.symm, c3.symm, c4.symm⟩
theorem zc10 {ft fw : Nat → Int32} {a b : Int32} (h : zWd fw) : (zM10 ft a b ∧ fq_wordAt_c ft fw a b 108 10 52 = 10) ∨ (¬ zM10 ft a b ∧ fq_wordAt_c ft fw a b 108 10 52 = fq_wordAt_c ft fw a b 107 11 58) := by
  rw [fq_wordAt_c, if_neg (by decide), xL_eq, zd10 h, show (52 : Int32) + (5 + 1) = 58 from rfl, show (10 : Int32) + 1 = 11 from rfl]
  by_cases c : (5 : Int32) = b - a
  · rw [if_pos c, xL_eq]
    rcases ze10 (ft := ft) h c.symm with ⟨e, q⟩ | ⟨e, q⟩
    · rw [e, if_neg (by decide)]; exact Or.inl ⟨q, rfl⟩
    · rw [e, if_pos rfl]; exact Or.inr ⟨q, rfl⟩
  · rw [if_neg c, xL_eq, show fq_wordAt_e ft fw a 52 5 118 0 0 = (0, 0) from by rw [fq_wordAt_e, if_neg (by decide), if_pos rfl], if_pos rfl]
    exact Or.inr ⟨fun q => c q.1.symm, rfl⟩
theorem zk10 {ft : Nat → Int32} {a b : Int32} (a0 : ¬ a < 0) (a9 : a ≤ 900) (b9 : b ≤ 900) (b0 : ¬ b < a) (hs : ∀ k : Int32, ¬ k < a → k < b → ¬ ft k.toNatClampNeg < 97 ∧ ft k.toNatClampNeg ≤ 122) : zM10 ft a b ↔ fq_packed ft a b = 844155488 := by
  constructor
  · intro hm
    have hb := hm.1
    rw [zpd a0 a9]
    rw [show zE ft a b 0 = 25 from by rw [zE, if_neg (by lia), hm.2.1]; rfl]
    rw [show zE ft a b 1 = 5 from by rw [zE, if_neg (by lia), hm.2.2.1]; rfl]
    rw [show zE ft a b 2 = 1 from by rw [zE, if_neg (by lia), hm.2.2.2.1]; rfl]
    rw [show zE ft a b 3 = 18 from by rw [zE, if_neg (by lia), hm.2.2.2.2.1]; rfl]
    rw [show zE ft a b 4 = 19 from by rw [zE, if_neg (by lia), hm.2.2.2.2.2]; rfl]
    rw [show zE ft a b 5 = 0 from by rw [zE, if_pos (by lia)]]
    rfl
  · intro hc
    obtain ⟨E0, E1, E2, E3, E4, E5, l0, l1, l2, l3, l4, l5, g0, g1, g2, g3, g4, g5, hn⟩ := zpn a0 a9 hs
    rw [hc, show ((844155488 : Int32)).toBitVec.toNat = 844155488 from rfl] at hn
    have v0 : zE ft a b 0 = 25 := by
      have z : E0 = 25 := by omega
      rw [z] at g0
      exact zEq g0 (by decide)
    have x0 := zEr hs a0 a9 0 (by decide) (by decide)
    rw [v0] at x0
    have v1 : zE ft a b 1 = 5 := by
      have z : E1 = 5 := by omega
      rw [z] at g1
      exact zEq g1 (by decide)
    have x1 := zEr hs a0 a9 1 (by decide) (by decide)
    rw [v1] at x1
    have v2 : zE ft a b 2 = 1 := by
      have z : E2 = 1 := by omega
      rw [z] at g2
      exact zEq g2 (by decide)
    have x2 := zEr hs a0 a9 2 (by decide) (by decide)
    rw [v2] at x2
    have v3 : zE ft a b 3 = 18 := by
      have z : E3 = 18 := by omega
      rw [z] at g3
      exact zEq g3 (by decide)
    have x3 := zEr hs a0 a9 3 (by decide) (by decide)
    rw [v3] at x3
    have v4 : zE ft a b 4 = 19 := by
      have z : E4 = 19 := by omega
      rw [z] at g4
      exact zEq g4 (by decide)
    have x4 := zEr hs a0 a9 4 (by decide) (by decide)
    rw [v4] at x4
    have v5 : zE ft a b 5 = 0 := by
      have z : E5 = 0 := by omega
      rw [z] at g5
      exact zEq g5 (by decide)
    have x5 := zEr hs a0 a9 5 (by decide) (by decide)
    rw [v5] at x5
    have y0 : ¬ b ≤ a + 0 ∧ ft ((a + 0).toNatClampNeg) = 121 := by
      rcases x0 with q | q
      · exact absurd q.2 (by decide)
      · exact ⟨q.1, by have q2 := q.2.1; lia⟩
    have y1 : ¬ b ≤ a + 1 ∧ ft ((a + 1).toNatClampNeg) = 101 := by
      rcases x1 with q | q
      · exact absurd q.2 (by decide)
      · exact ⟨q.1, by have q2 := q.2.1; lia⟩
    have y2 : ¬ b ≤ a + 2 ∧ ft ((a + 2).toNatClampNeg) = 97 := by
      rcases x2 with q | q
      · exact absurd q.2 (by decide)
      · exact ⟨q.1, by have q2 := q.2.1; lia⟩
    have y3 : ¬ b ≤ a + 3 ∧ ft ((a + 3).toNatClampNeg) = 114 := by
      rcases x3 with q | q
      · exact absurd q.2 (by decide)
      · exact ⟨q.1, by have q2 := q.2.1; lia⟩
    have y4 : ¬ b ≤ a + 4 ∧ ft ((a + 4).toNatClampNeg) = 115 := by
      rcases x4 with q | q
      · exact absurd q.2 (by decide)
      · exact ⟨q.1, by have q2 := q.2.1; lia⟩
    have y5 : b ≤ a + 5 := by
      rcases x5 with q | q
      · exact q.1
      · exact absurd q.2.2.1 (by decide)
    have y6 : b - a = 5 := by have u := y4.1; lia
    exact ⟨y6, y0.2, y1.2, y2.2, y3.2, y4.2⟩
def zM11 (ft : Nat → Int32) (a b : Int32) : Prop := b - a = 4 ∧ ft ((a + 0).toNatClampNeg) = 100 ∧ ft ((a + 1).toNatClampNeg) = 97 ∧ ft ((a + 2).toNatClampNeg) = 121 ∧ ft ((a + 3).toNatClampNeg) = 115
theorem zd11 {fw : Nat → Int32} (h : zWd fw) : fq_wordAt_d fw 58 118 0 = 4 := by
  rw [fq_wordAt_d, show ((58 : Int32) + 0).toNatClampNeg = 58 from rfl, zW58 h, if_neg (by decide), show (0 : Int32) + 1 = 1 from rfl]
  rw [fq_wordAt_d, show ((58 : Int32) + 1).toNatClampNeg = 59 from rfl, zW59 h, if_neg (by decide), show (1 : Int32) + 1 = 2 from rfl]
  rw [fq_wordAt_d, show ((58 : Int32) + 2).toNatClampNeg = 60 from rfl, zW60 h, if_neg (by decide), show (2 : Int32) + 1 = 3 from rfl]
  rw [fq_wordAt_d, show ((58 : Int32) + 3).toNatClampNeg = 61 from rfl, zW61 h, if_neg (by decide), show (3 : Int32) + 1 = 4 from rfl]
  rw [fq_wordAt_d, show ((58 : Int32) + 4).toNatClampNeg = 62 from rfl, zW62 h, if_pos rfl]
theorem ze11 {ft fw : Nat → Int32} {a b : Int32} (h : zWd fw) (hb : b - a = 4) : ((fq_wordAt_e ft fw a 58 4 118 1 0).1 = 1 ∧ zM11 ft a b) ∨ ((fq_wordAt_e ft fw a 58 4 118 1 0).1 = 0 ∧ ¬ zM11 ft a b) := by
  rw [fq_wordAt_e, if_neg (by decide), if_neg (by decide), show ((58 : Int32) + 0).toNatClampNeg = 58 from rfl, zW58 h]
  by_cases c0 : (100 : Int32) = ft ((a + 0).toNatClampNeg)
  case neg =>
    rw [if_neg c0, fq_wordAt_e]
    refine Or.inr ⟨?_, fun z => c0 (z.2.1).symm⟩
    by_cases q : (4 : Int32) ≤ 0 + 1
    · rw [if_pos q]
    · rw [if_neg q, if_pos rfl]
  rw [if_pos c0, show (0 : Int32) + 1 = 1 from rfl]
  rw [fq_wordAt_e, if_neg (by decide), if_neg (by decide), show ((58 : Int32) + 1).toNatClampNeg = 59 from rfl, zW59 h]
  by_cases c1 : (97 : Int32) = ft ((a + 1).toNatClampNeg)
  case neg =>
    rw [if_neg c1, fq_wordAt_e]
    refine Or.inr ⟨?_, fun z => c1 (z.2.2.1).symm⟩
    by_cases q : (4 : Int32) ≤ 1 + 1
    · rw [if_pos q]
    · rw [if_neg q, if_pos rfl]
  rw [if_pos c1, show (1 : Int32) + 1 = 2 from rfl]
  rw [fq_wordAt_e, if_neg (by decide), if_neg (by decide), show ((58 : Int32) + 2).toNatClampNeg = 60 from rfl, zW60 h]
  by_cases c2 : (121 : Int32) = ft ((a + 2).toNatClampNeg)
  case neg =>
    rw [if_neg c2, fq_wordAt_e]
    refine Or.inr ⟨?_, fun z => c2 (z.2.2.2.1).symm⟩
    by_cases q : (4 : Int32) ≤ 2 + 1
    · rw [if_pos q]
    · rw [if_neg q, if_pos rfl]
  rw [if_pos c2, show (2 : Int32) + 1 = 3 from rfl]
  rw [fq_wordAt_e, if_neg (by decide), if_neg (by decide), show ((58 : Int32) + 3).toNatClampNeg = 61 from rfl, zW61 h]
  by_cases c3 : (115 : Int32) = ft ((a + 3).toNatClampNeg)
  case neg =>
    rw [if_neg c3, fq_wordAt_e]
    refine Or.inr ⟨?_, fun z => c3 (z.2.2.2.2).symm⟩
    by_cases q : (4 : Int32) ≤ 3 + 1
    · rw [if_pos q]
    · rw [if_neg q, if_pos rfl]
  rw [if_pos c3, show (3 : Int32) + 1 = 4 from rfl]
  rw [fq_wordAt_e, if_pos (by decide)]
  exact Or.inl ⟨rfl, hb, c0.symm, c1.symm, c2.symm, c3.symm⟩
theorem zc11 {ft fw : Nat → Int32} {a b : Int32} (h : zWd fw) : (zM11 ft a b ∧ fq_wordAt_c ft fw a b 107 11 58 = 11) ∨ (¬ zM11 ft a b ∧ fq_wordAt_c ft fw a b 107 11 58 = fq_wordAt_c ft fw a b 106 12 63) := by
  rw [fq_wordAt_c, if_neg (by decide), xL_eq, zd11 h, show (58 : Int32) + (4 + 1) = 63 from rfl, show (11 : Int32) + 1 = 12 from rfl]
  by_cases c : (4 : Int32) = b - a
  · rw [if_pos c, xL_eq]
    rcases ze11 (ft := ft) h c.symm with ⟨e, q⟩ | ⟨e, q⟩
    · rw [e, if_neg (by decide)]; exact Or.inl ⟨q, rfl⟩
    · rw [e, if_pos rfl]; exact Or.inr ⟨q, rfl⟩
  · rw [if_neg c, xL_eq, show fq_wordAt_e ft fw a 58 4 118 0 0 = (0, 0) from by rw [fq_wordAt_e, if_neg (by decide), if_pos rfl], if_pos rfl]
    exact Or.inr ⟨fun q => c q.1.symm, rfl⟩
theorem zk11 {ft : Nat → Int32} {a b : Int32} (a0 : ¬ a < 0) (a9 : a ≤ 900) (b9 : b ≤ 900) (b0 : ¬ b < a) (hs : ∀ k : Int32, ¬ k < a → k < b → ¬ ft k.toNatClampNeg < 97 ∧ ft k.toNatClampNeg ≤ 122) : zM11 ft a b ↔ fq_packed ft a b = 136104960 := by
  constructor
  · intro hm
    have hb := hm.1
    rw [zpd a0 a9]
    rw [show zE ft a b 0 = 4 from by rw [zE, if_neg (by lia), hm.2.1]; rfl]
    rw [show zE ft a b 1 = 1 from by rw [zE, if_neg (by lia), hm.2.2.1]; rfl]
    rw [show zE ft a b 2 = 25 from by rw [zE, if_neg (by lia), hm.2.2.2.1]; rfl]
    rw [show zE ft a b 3 = 19 from by rw [zE, if_neg (by lia), hm.2.2.2.2]; rfl]
    rw [show zE ft a b 4 = 0 from by rw [zE, if_pos (by lia)]]
    rw [show zE ft a b 5 = 0 from by rw [zE, if_pos (by lia)]]
    rfl
  · intro hc
    obtain ⟨E0, E1, E2, E3, E4, E5, l0, l1, l2, l3, l4, l5, g0, g1, g2, g3, g4, g5, hn⟩ := zpn a0 a9 hs
    rw [hc, show ((136104960 : Int32)).toBitVec.toNat = 136104960 from rfl] at hn
    have v0 : zE ft a b 0 = 4 := by
      have z : E0 = 4 := by omega
      rw [z] at g0
      exact zEq g0 (by decide)
    have x0 := zEr hs a0 a9 0 (by decide) (by decide)
    rw [v0] at x0
    have v1 : zE ft a b 1 = 1 := by
      have z : E1 = 1 := by omega
      rw [z] at g1
      exact zEq g1 (by decide)
    have x1 := zEr hs a0 a9 1 (by decide) (by decide)
    rw [v1] at x1
    have v2 : zE ft a b 2 = 25 := by
      have z : E2 = 25 := by omega
      rw [z] at g2
      exact zEq g2 (by decide)
    have x2 := zEr hs a0 a9 2 (by decide) (by decide)
    rw [v2] at x2
    have v3 : zE ft a b 3 = 19 := by
      have z : E3 = 19 := by omega
      rw [z] at g3
      exact zEq g3 (by decide)
    have x3 := zEr hs a0 a9 3 (by decide) (by decide)
    rw [v3] at x3
    have v4 : zE ft a b 4 = 0 := by
      have z : E4 = 0 := by omega
      rw [z] at g4
      exact zEq g4 (by decide)
    have x4 := zEr hs a0 a9 4 (by decide) (by decide)
    rw [v4] at x4
    have v5 : zE ft a b 5 = 0 := by
      have z : E5 = 0 := by omega
      rw [z] at g5
      exact zEq g5 (by decide)
    have x5 := zEr hs a0 a9 5 (by decide) (by decide)
    rw [v5] at x5
    have y0 : ¬ b ≤ a + 0 ∧ ft ((a + 0).toNatClampNeg) = 100 := by
      rcases x0 with q | q
      · exact absurd q.2 (by decide)
      · exact ⟨q.1, by have q2 := q.2.1; lia⟩
    have y1 : ¬ b ≤ a + 1 ∧ ft ((a + 1).toNatClampNeg) = 97 := by
      rcases x1 with q | q
      · exact absurd q.2 (by decide)
      · exact ⟨q.1, by have q2 := q.2.1; lia⟩
    have y2 : ¬ b ≤ a + 2 ∧ ft ((a + 2).toNatClampNeg) = 121 := by
      rcases x2 with q | q
      · exact absurd q.2 (by decide)
      · exact ⟨q.1, by have q2 := q.2.1; lia⟩
    have y3 : ¬ b ≤ a + 3 ∧ ft ((a + 3).toNatClampNeg) = 115 := by
      rcases x3 with q | q
      · exact absurd q.2 (by decide)
      · exact ⟨q.1, by have q2 := q.2.1; lia⟩
    have y4 : b ≤ a + 4 := by
      rcases x4 with q | q
      · exact q.1
      · exact absurd q.2.2.1 (by decide)
    have y6 : b - a = 4 := by have u := y3.1; lia
    exact ⟨y6, y0.2, y1.2, y2.2, y3.2⟩
def zM12 (ft : Nat → Int32) (a b : Int32) : Prop := b - a = 4 ∧ ft ((a + 0).toNatClampNeg) = 116 ∧ ft ((a + 1).toNatClampNeg) = 105 ∧ ft ((a + 2).toNatClampNeg) = 108 ∧ ft ((a + 3).toNatClampNeg) = 108
theorem zd12 {fw : Nat → Int32} (h : zWd fw) : fq_wordAt_d fw 63 118 0 = 4 := by
  rw [fq_wordAt_d, show ((63 : Int32) + 0).toNatClampNeg = 63 from rfl, zW63 h, if_neg (by decide), show (0 : Int32) + 1 = 1 from rfl]
  rw [fq_wordAt_d, show ((63 : Int32) + 1).toNatClampNeg = 64 from rfl, zW64 h, if_neg (by decide), show (1 : Int32) + 1 = 2 from rfl]
  rw [fq_wordAt_d, show ((63 : Int32) + 2).toNatClampNeg = 65 from rfl, zW65 h, if_neg (by decide), show (2 : Int32) + 1 = 3 from rfl]
  rw [fq_wordAt_d, show ((63 : Int32) + 3).toNatClampNeg = 66 from rfl, zW66 h, if_neg (by decide), show (3 : Int32) + 1 = 4 from rfl]
  rw [fq_wordAt_d, show ((63 : Int32) + 4).toNatClampNeg = 67 from rfl, zW67 h, if_pos rfl]
theorem ze12 {ft fw : Nat → Int32} {a b : Int32} (h : zWd fw) (hb : b - a = 4) : ((fq_wordAt_e ft fw a 63 4 118 1 0).1 = 1 ∧ zM12 ft a b) ∨ ((fq_wordAt_e ft fw a 63 4 118 1 0).1 = 0 ∧ ¬ zM12 ft a b) := by
  rw [fq_wordAt_e, if_neg (by decide), if_neg (by decide), show ((63 : Int32) + 0).toNatClampNeg = 63 from rfl, zW63 h]
  by_cases c0 : (116 : Int32) = ft ((a + 0).toNatClampNeg)
  case neg =>
    rw [if_neg c0, fq_wordAt_e]
    refine Or.inr ⟨?_, fun z => c0 (z.2.1).symm⟩
    by_cases q : (4 : Int32) ≤ 0 + 1
    · rw [if_pos q]
    · rw [if_neg q, if_pos rfl]
  rw [if_pos c0, show (0 : Int32) + 1 = 1 from rfl]
  rw [fq_wordAt_e, if_neg (by decide), if_neg (by decide), show ((63 : Int32) + 1).toNatClampNeg = 64 from rfl, zW64 h]
  by_cases c1 : (105 : Int32) = ft ((a + 1).toNatClampNeg)
  case neg =>
    rw [if_neg c1, fq_wordAt_e]
    refine Or.inr ⟨?_, fun z => c1 (z.2.2.1).symm⟩
    by_cases q : (4 : Int32) ≤ 1 + 1
    · rw [if_pos q]
    · rw [if_neg q, if_pos rfl]
  rw [if_pos c1, show (1 : Int32) + 1 = 2 from rfl]
  rw [fq_wordAt_e, if_neg (by decide), if_neg (by decide), show ((63 : Int32) + 2).toNatClampNeg = 65 from rfl, zW65 h]
  by_cases c2 : (108 : Int32) = ft ((a + 2).toNatClampNeg)
  case neg =>
    rw [if_neg c2, fq_wordAt_e]
    refine Or.inr ⟨?_, fun z => c2 (z.2.2.2.1).symm⟩
    by_cases q : (4 : Int32) ≤ 2 + 1
    · rw [if_pos q]
    · rw [if_neg q, if_pos rfl]
  rw [if_pos c2, show (2 : Int32) + 1 = 3 from rfl]
  rw [fq_wordAt_e, if_neg (by decide), if_neg (by decide), show ((63 : Int32) + 3).toNatClampNeg = 66 from rfl, zW66 h]
  by_cases c3 : (108 : Int32) = ft ((a + 3).toNatClampNeg)
  case neg =>
    rw [if_neg c3, fq_wordAt_e]
    refine Or.inr ⟨?_, fun z => c3 (z.2.2.2.2).symm⟩
    by_cases q : (4 : Int32) ≤ 3 + 1
    · rw [if_pos q]
    · rw [if_neg q, if_pos rfl]
  rw [if_pos c3, show (3 : Int32) + 1 = 4 from rfl]
  rw [fq_wordAt_e, if_pos (by decide)]
  exact Or.inl ⟨rfl, hb, c0.symm, c1.symm, c2.symm, c3.symm⟩
theorem zc12 {ft fw : Nat → Int32} {a b : Int32} (h : zWd fw) : (zM12 ft a b ∧ fq_wordAt_c ft fw a b 106 12 63 = 12) ∨ (¬ zM12 ft a b ∧ fq_wordAt_c ft fw a b 106 12 63 = fq_wordAt_c ft fw a b 105 13 68) := by
  rw [fq_wordAt_c, if_neg (by decide), xL_eq, zd12 h, show (63 : Int32) + (4 + 1) = 68 from rfl, show (12 : Int32) + 1 = 13 from rfl]
  by_cases c : (4 : Int32) = b - a
  · rw [if_pos c, xL_eq]
    rcases ze12 (ft := ft) h c.symm with ⟨e, q⟩ | ⟨e, q⟩
    · rw [e, if_neg (by decide)]; exact Or.inl ⟨q, rfl⟩
    · rw [e, if_pos rfl]; exact Or.inr ⟨q, rfl⟩
  · rw [if_neg c, xL_eq, show fq_wordAt_e ft fw a 63 4 118 0 0 = (0, 0) from by rw [fq_wordAt_e, if_neg (by decide), if_pos rfl], if_pos rfl]
    exact Or.inr ⟨fun q => c q.1.symm, rfl⟩
theorem zk12 {ft : Nat → Int32} {a b : Int32} (a0 : ¬ a < 0) (a9 : a ≤ 900) (b9 : b ≤ 900) (b0 : ¬ b < a) (hs : ∀ k : Int32, ¬ k < a → k < b → ¬ ft k.toNatClampNeg < 97 ∧ ft k.toNatClampNeg ≤ 122) : zM12 ft a b ↔ fq_packed ft a b = 680931328 := by
  constructor
  · intro hm
    have hb := hm.1
    rw [zpd a0 a9]
    rw [show zE ft a b 0 = 20 from by rw [zE, if_neg (by lia), hm.2.1]; rfl]
    rw [show zE ft a b 1 = 9 from by rw [zE, if_neg (by lia), hm.2.2.1]; rfl]
    rw [show zE ft a b 2 = 12 from by rw [zE, if_neg (by lia), hm.2.2.2.1]; rfl]
    rw [show zE ft a b 3 = 12 from by rw [zE, if_neg (by lia), hm.2.2.2.2]; rfl]
    rw [show zE ft a b 4 = 0 from by rw [zE, if_pos (by lia)]]
    rw [show zE ft a b 5 = 0 from by rw [zE, if_pos (by lia)]]
    rfl
  · intro hc
    obtain ⟨E0, E1, E2, E3, E4, E5, l0, l1, l2, l3, l4, l5, g0, g1, g2, g3, g4, g5, hn⟩ := zpn a0 a9 hs
    rw [hc, show ((680931328 : Int32)).toBitVec.toNat = 680931328 from rfl] at hn
    have v0 : zE ft a b 0 = 20 := by
      have z : E0 = 20 := by omega
      rw [z] at g0
      exact zEq g0 (by decide)
    have x0 := zEr hs a0 a9 0 (by decide) (by decide)
    rw [v0] at x0
    have v1 : zE ft a b 1 = 9 := by
      have z : E1 = 9 := by omega
      rw [z] at g1
      exact zEq g1 (by decide)
    have x1 := zEr hs a0 a9 1 (by decide) (by decide)
    rw [v1] at x1
    have v2 : zE ft a b 2 = 12 := by
      have z : E2 = 12 := by omega
      rw [z] at g2
      exact zEq g2 (by decide)
    have x2 := zEr hs a0 a9 2 (by decide) (by decide)
    rw [v2] at x2
    have v3 : zE ft a b 3 = 12 := by
      have z : E3 = 12 := by omega
      rw [z] at g3
      exact zEq g3 (by decide)
    have x3 := zEr hs a0 a9 3 (by decide) (by decide)
    rw [v3] at x3
    have v4 : zE ft a b 4 = 0 := by
      have z : E4 = 0 := by omega
      rw [z] at g4
      exact zEq g4 (by decide)
    have x4 := zEr hs a0 a9 4 (by decide) (by decide)
    rw [v4] at x4
    have v5 : zE ft a b 5 = 0 := by
      have z : E5 = 0 := by omega
      rw [z] at g5
      exact zEq g5 (by decide)
    have x5 := zEr hs a0 a9 5 (by decide) (by decide)
    rw [v5] at x5
    have y0 : ¬ b ≤ a + 0 ∧ ft ((a + 0).toNatClampNeg) = 116 := by
      rcases x0 with q | q
      · exact absurd q.2 (by decide)
      · exact ⟨q.1, by have q2 := q.2.1; lia⟩
    have y1 : ¬ b ≤ a + 1 ∧ ft ((a + 1).toNatClampNeg) = 105 := by
      rcases x1 with q | q
      · exact absurd q.2 (by decide)
      · exact ⟨q.1, by have q2 := q.2.1; lia⟩
    have y2 : ¬ b ≤ a + 2 ∧ ft ((a + 2).toNatClampNeg) = 108 := by
      rcases x2 with q | q
      · exact absurd q.2 (by decide)
      · exact ⟨q.1, by have q2 := q.2.1; lia⟩
    have y3 : ¬ b ≤ a + 3 ∧ ft ((a + 3).toNatClampNeg) = 108 := by
      rcases x3 with q | q
      · exact absurd q.2 (by decide)
      · exact ⟨q.1, by have q2 := q.2.1; lia⟩
    have y4 : b ≤ a + 4 := by
      rcases x4 with q | q
      · exact q.1
      · exact absurd q.2.2.1 (by decide)
    have y6 : b - a = 4 := by have u := y3.1; lia
    exact ⟨y6, y0.2, y1.2, y2.2, y3.2⟩
def zM13 (ft : Nat → Int32) (a b : Int32) : Prop := b - a = 3 ∧ ft ((a + 0).toNatClampNeg) = 112 ∧ ft ((a + 1).toNatClampNeg) = 97 ∧ ft ((a + 2).toNatClampNeg) = 121
theorem zd13 {fw : Nat → Int32} (h : zWd fw) : fq_wordAt_d fw 68 118 0 = 3 := by
  rw [fq_wordAt_d, show ((68 : Int32) + 0).toNatClampNeg = 68 from rfl, zW68 h, if_neg (by decide), show (0 : Int32) + 1 = 1 from rfl]
  rw [fq_wordAt_d, show ((68 : Int32) + 1).toNatClampNeg = 69 from rfl, zW69 h, if_neg (by decide), show (1 : Int32) + 1 = 2 from rfl]
  rw [fq_wordAt_d, show ((68 : Int32) + 2).toNatClampNeg = 70 from rfl, zW70 h, if_neg (by decide), show (2 : Int32) + 1 = 3 from rfl]
  rw [fq_wordAt_d, show ((68 : Int32) + 3).toNatClampNeg = 71 from rfl, zW71 h, if_pos rfl]
theorem ze13 {ft fw : Nat → Int32} {a b : Int32} (h : zWd fw) (hb : b - a = 3) : ((fq_wordAt_e ft fw a 68 3 118 1 0).1 = 1 ∧ zM13 ft a b) ∨ ((fq_wordAt_e ft fw a 68 3 118 1 0).1 = 0 ∧ ¬ zM13 ft a b) := by
  rw [fq_wordAt_e, if_neg (by decide), if_neg (by decide), show ((68 : Int32) + 0).toNatClampNeg = 68 from rfl, zW68 h]
  by_cases c0 : (112 : Int32) = ft ((a + 0).toNatClampNeg)
  case neg =>
    rw [if_neg c0, fq_wordAt_e]
    refine Or.inr ⟨?_, fun z => c0 (z.2.1).symm⟩
    by_cases q : (3 : Int32) ≤ 0 + 1
    · rw [if_pos q]
    · rw [if_neg q, if_pos rfl]
  rw [if_pos c0, show (0 : Int32) + 1 = 1 from rfl]
  rw [fq_wordAt_e, if_neg (by decide), if_neg (by decide), show ((68 : Int32) + 1).toNatClampNeg = 69 from rfl, zW69 h]
  by_cases c1 : (97 : Int32) = ft ((a + 1).toNatClampNeg)
  case neg =>
    rw [if_neg c1, fq_wordAt_e]
    refine Or.inr ⟨?_, fun z => c1 (z.2.2.1).symm⟩
    by_cases q : (3 : Int32) ≤ 1 + 1
    · rw [if_pos q]
    · rw [if_neg q, if_pos rfl]
  rw [if_pos c1, show (1 : Int32) + 1 = 2 from rfl]
  rw [fq_wordAt_e, if_neg (by decide), if_neg (by decide), show ((68 : Int32) + 2).toNatClampNeg = 70 from rfl, zW70 h]
  by_cases c2 : (121 : Int32) = ft ((a + 2).toNatClampNeg)
  case neg =>
    rw [if_neg c2, fq_wordAt_e]
    refine Or.inr ⟨?_, fun z => c2 (z.2.2.2).symm⟩
    by_cases q : (3 : Int32) ≤ 2 + 1
    · rw [if_pos q]
    · rw [if_neg q, if_pos rfl]
  rw [if_pos c2, show (2 : Int32) + 1 = 3 from rfl]
  rw [fq_wordAt_e, if_pos (by decide)]
  exact Or.inl ⟨rfl, hb, c0.symm, c1.symm, c2.symm⟩
theorem zc13 {ft fw : Nat → Int32} {a b : Int32} (h : zWd fw) : (zM13 ft a b ∧ fq_wordAt_c ft fw a b 105 13 68 = 13) ∨ (¬ zM13 ft a b ∧ fq_wordAt_c ft fw a b 105 13 68 = fq_wordAt_c ft fw a b 104 14 72) := by
  rw [fq_wordAt_c, if_neg (by decide), xL_eq, zd13 h, show (68 : Int32) + (3 + 1) = 72 from rfl, show (13 : Int32) + 1 = 14 from rfl]
  by_cases c : (3 : Int32) = b - a
  · rw [if_pos c, xL_eq]
    rcases ze13 (ft := ft) h c.symm with ⟨e, q⟩ | ⟨e, q⟩
    · rw [e, if_neg (by decide)]; exact Or.inl ⟨q, rfl⟩
    · rw [e, if_pos rfl]; exact Or.inr ⟨q, rfl⟩
  · rw [if_neg c, xL_eq, show fq_wordAt_e ft fw a 68 3 118 0 0 = (0, 0) from by rw [fq_wordAt_e, if_neg (by decide), if_pos rfl], if_pos rfl]
    exact Or.inr ⟨fun q => c q.1.symm, rfl⟩
theorem zk13 {ft : Nat → Int32} {a b : Int32} (a0 : ¬ a < 0) (a9 : a ≤ 900) (b9 : b ≤ 900) (b0 : ¬ b < a) (hs : ∀ k : Int32, ¬ k < a → k < b → ¬ ft k.toNatClampNeg < 97 ∧ ft k.toNatClampNeg ≤ 122) : zM13 ft a b ↔ fq_packed ft a b = 538738688 := by
  constructor
  · intro hm
    have hb := hm.1
    rw [zpd a0 a9]
    rw [show zE ft a b 0 = 16 from by rw [zE, if_neg (by lia), hm.2.1]; rfl]
    rw [show zE ft a b 1 = 1 from by rw [zE, if_neg (by lia), hm.2.2.1]; rfl]
    rw [show zE ft a b 2 = 25 from by rw [zE, if_neg (by lia), hm.2.2.2]; rfl]
    rw [show zE ft a b 3 = 0 from by rw [zE, if_pos (by lia)]]
    rw [show zE ft a b 4 = 0 from by rw [zE, if_pos (by lia)]]
    rw [show zE ft a b 5 = 0 from by rw [zE, if_pos (by lia)]]
    rfl
  · intro hc
    obtain ⟨E0, E1, E2, E3, E4, E5, l0, l1, l2, l3, l4, l5, g0, g1, g2, g3, g4, g5, hn⟩ := zpn a0 a9 hs
    rw [hc, show ((538738688 : Int32)).toBitVec.toNat = 538738688 from rfl] at hn
    have v0 : zE ft a b 0 = 16 := by
      have z : E0 = 16 := by omega
      rw [z] at g0
      exact zEq g0 (by decide)
    have x0 := zEr hs a0 a9 0 (by decide) (by decide)
    rw [v0] at x0
    have v1 : zE ft a b 1 = 1 := by
      have z : E1 = 1 := by omega
      rw [z] at g1
      exact zEq g1 (by decide)
    have x1 := zEr hs a0 a9 1 (by decide) (by decide)
    rw [v1] at x1
    have v2 : zE ft a b 2 = 25 := by
      have z : E2 = 25 := by omega
      rw [z] at g2
      exact zEq g2 (by decide)
    have x2 := zEr hs a0 a9 2 (by decide) (by decide)
    rw [v2] at x2
    have v3 : zE ft a b 3 = 0 := by
      have z : E3 = 0 := by omega
      rw [z] at g3
      exact zEq g3 (by decide)
    have x3 := zEr hs a0 a9 3 (by decide) (by decide)
    rw [v3] at x3
    have v4 : zE ft a b 4 = 0 := by
      have z : E4 = 0 := by omega
      rw [z] at g4
      exact zEq g4 (by decide)
    have x4 := zEr hs a0 a9 4 (by decide) (by decide)
    rw [v4] at x4
    have v5 : zE ft a b 5 = 0 := by
      have z : E5 = 0 := by omega
      rw [z] at g5
      exact zEq g5 (by decide)
    have x5 := zEr hs a0 a9 5 (by decide) (by decide)
    rw [v5] at x5
    have y0 : ¬ b ≤ a + 0 ∧ ft ((a + 0).toNatClampNeg) = 112 := by
      rcases x0 with q | q
      · exact absurd q.2 (by decide)
      · exact ⟨q.1, by have q2 := q.2.1; lia⟩
    have y1 : ¬ b ≤ a + 1 ∧ ft ((a + 1).toNatClampNeg) = 97 := by
      rcases x1 with q | q
      · exact absurd q.2 (by decide)
      · exact ⟨q.1, by have q2 := q.2.1; lia⟩
    have y2 : ¬ b ≤ a + 2 ∧ ft ((a + 2).toNatClampNeg) = 121 := by
      rcases x2 with q | q
      · exact absurd q.2 (by decide)
      · exact ⟨q.1, by have q2 := q.2.1; lia⟩
    have y3 : b ≤ a + 3 := by
      rcases x3 with q | q
      · exact q.1
      · exact absurd q.2.2.1 (by decide)
    have y6 : b - a = 3 := by have u := y2.1; lia
    exact ⟨y6, y0.2, y1.2, y2.2⟩
def zM14 (ft : Nat → Int32) (a b : Int32) : Prop := b - a = 5 ∧ ft ((a + 0).toNatClampNeg) = 97 ∧ ft ((a + 1).toNatClampNeg) = 108 ∧ ft ((a + 2).toNatClampNeg) = 105 ∧ ft ((a + 3).toNatClampNeg) = 118 ∧ ft ((a + 4).toNatClampNeg) = 101
theorem zd14 {fw : Nat → Int32} (h : zWd fw) : fq_wordAt_d fw 72 118 0 = 5 := by
  rw [fq_wordAt_d, show ((72 : Int32) + 0).toNatClampNeg = 72 from rfl, zW72 h, if_neg (by decide), show (0 : Int32) + 1 = 1 from rfl]
  rw [fq_wordAt_d, show ((72 : Int32) + 1).toNatClampNeg = 73 from rfl, zW73 h, if_neg (by decide), show (1 : Int32) + 1 = 2 from rfl]
  rw [fq_wordAt_d, show ((72 : Int32) + 2).toNatClampNeg = 74 from rfl, zW74 h, if_neg (by decide), show (2 : Int32) + 1 = 3 from rfl]
  rw [fq_wordAt_d, show ((72 : Int32) + 3).toNatClampNeg = 75 from rfl, zW75 h, if_neg (by decide), show (3 : Int32) + 1 = 4 from rfl]
  rw [fq_wordAt_d, show ((72 : Int32) + 4).toNatClampNeg = 76 from rfl, zW76 h, if_neg (by decide), show (4 : Int32) + 1 = 5 from rfl]
  rw [fq_wordAt_d, show ((72 : Int32) + 5).toNatClampNeg = 77 from rfl, zW77 h, if_pos rfl]
theorem ze14 {ft fw : Nat → Int32} {a b : Int32} (h : zWd fw) (hb : b - a = 5) : ((fq_wordAt_e ft fw a 72 5 118 1 0).1 = 1 ∧ zM14 ft a b) ∨ ((fq_wordAt_e ft fw a 72 5 118 1 0).1 = 0 ∧ ¬ zM14 ft a b) := by
  rw [fq_wordAt_e, if_neg (by decide), if_neg (by decide), show ((72 : Int32) + 0).toNatClampNeg = 72 from rfl, zW72 h]
  by_cases c0 : (97 : Int32) = ft ((a + 0).toNatClampNeg)
  case neg =>
    rw [if_neg c0, fq_wordAt_e]
    refine Or.inr ⟨?_, fun z => c0 (z.2.1).symm⟩
    by_cases q : (5 : Int32) ≤ 0 + 1
    · rw [if_pos q]
    · rw [if_neg q, if_pos rfl]
  rw [if_pos c0, show (0 : Int32) + 1 = 1 from rfl]
  rw [fq_wordAt_e, if_neg (by decide), if_neg (by decide), show ((72 : Int32) + 1).toNatClampNeg = 73 from rfl, zW73 h]
  by_cases c1 : (108 : Int32) = ft ((a + 1).toNatClampNeg)
  case neg =>
    rw [if_neg c1, fq_wordAt_e]
    refine Or.inr ⟨?_, fun z => c1 (z.2.2.1).symm⟩
    by_cases q : (5 : Int32) ≤ 1 + 1
    · rw [if_pos q]
    · rw [if_neg q, if_pos rfl]
  rw [if_pos c1, show (1 : Int32) + 1 = 2 from rfl]
  rw [fq_wordAt_e, if_neg (by decide), if_neg (by decide), show ((72 : Int32) + 2).toNatClampNeg = 74 from rfl, zW74 h]
  by_cases c2 : (105 : Int32) = ft ((a + 2).toNatClampNeg)
  case neg =>
    rw [if_neg c2, fq_wordAt_e]
    refine Or.inr ⟨?_, fun z => c2 (z.2.2.2.1).symm⟩
    by_cases q : (5 : Int32) ≤ 2 + 1
    · rw [if_pos q]
    · rw [if_neg q, if_pos rfl]
  rw [if_pos c2, show (2 : Int32) + 1 = 3 from rfl]
  rw [fq_wordAt_e, if_neg (by decide), if_neg (by decide), show ((72 : Int32) + 3).toNatClampNeg = 75 from rfl, zW75 h]
  by_cases c3 : (118 : Int32) = ft ((a + 3).toNatClampNeg)
  case neg =>
    rw [if_neg c3, fq_wordAt_e]
    refine Or.inr ⟨?_, fun z => c3 (z.2.2.2.2.1).symm⟩
    by_cases q : (5 : Int32) ≤ 3 + 1
    · rw [if_pos q]
    · rw [if_neg q, if_pos rfl]
  rw [if_pos c3, show (3 : Int32) + 1 = 4 from rfl]
  rw [fq_wordAt_e, if_neg (by decide), if_neg (by decide), show ((72 : Int32) + 4).toNatClampNeg = 76 from rfl, zW76 h]
  by_cases c4 : (101 : Int32) = ft ((a + 4).toNatClampNeg)
  case neg =>
    rw [if_neg c4, fq_wordAt_e]
    refine Or.inr ⟨?_, fun z => c4 (z.2.2.2.2.2).symm⟩
    by_cases q : (5 : Int32) ≤ 4 + 1
    · rw [if_pos q]
    · rw [if_neg q, if_pos rfl]
  rw [if_pos c4, show (4 : Int32) + 1 = 5 from rfl]
  rw [fq_wordAt_e, if_pos (by decide)]
  exact Or.inl ⟨rfl, hb, c0.symm, c1.symm, c2.symm, c3.symm, c4.symm⟩
theorem zc14 {ft fw : Nat → Int32} {a b : Int32} (h : zWd fw) : (zM14 ft a b ∧ fq_wordAt_c ft fw a b 104 14 72 = 14) ∨ (¬ zM14 ft a b ∧ fq_wordAt_c ft fw a b 104 14 72 = fq_wordAt_c ft fw a b 103 15 78) := by
  rw [fq_wordAt_c, if_neg (by decide), xL_eq, zd14 h, show (72 : Int32) + (5 + 1) = 78 from rfl, show (14 : Int32) + 1 = 15 from rfl]
  by_cases c : (5 : Int32) = b - a
  · rw [if_pos c, xL_eq]
    rcases ze14 (ft := ft) h c.symm with ⟨e, q⟩ | ⟨e, q⟩
    · rw [e, if_neg (by decide)]; exact Or.inl ⟨q, rfl⟩
    · rw [e, if_pos rfl]; exact Or.inr ⟨q, rfl⟩
  · rw [if_neg c, xL_eq, show fq_wordAt_e ft fw a 72 5 118 0 0 = (0, 0) from by rw [fq_wordAt_e, if_neg (by decide), if_pos rfl], if_pos rfl]
    exact Or.inr ⟨fun q => c q.1.symm, rfl⟩
theorem zk14 {ft : Nat → Int32} {a b : Int32} (a0 : ¬ a < 0) (a9 : a ≤ 900) (b9 : b ≤ 900) (b0 : ¬ b < a) (hs : ∀ k : Int32, ¬ k < a → k < b → ¬ ft k.toNatClampNeg < 97 ∧ ft k.toNatClampNeg ≤ 122) : zM14 ft a b ↔ fq_packed ft a b = 46454944 := by
  constructor
  · intro hm
    have hb := hm.1
    rw [zpd a0 a9]
    rw [show zE ft a b 0 = 1 from by rw [zE, if_neg (by lia), hm.2.1]; rfl]
    rw [show zE ft a b 1 = 12 from by rw [zE, if_neg (by lia), hm.2.2.1]; rfl]
    rw [show zE ft a b 2 = 9 from by rw [zE, if_neg (by lia), hm.2.2.2.1]; rfl]
    rw [show zE ft a b 3 = 22 from by rw [zE, if_neg (by lia), hm.2.2.2.2.1]; rfl]
    rw [show zE ft a b 4 = 5 from by rw [zE, if_neg (by lia), hm.2.2.2.2.2]; rfl]
    rw [show zE ft a b 5 = 0 from by rw [zE, if_pos (by lia)]]
    rfl
  · intro hc
    obtain ⟨E0, E1, E2, E3, E4, E5, l0, l1, l2, l3, l4, l5, g0, g1, g2, g3, g4, g5, hn⟩ := zpn a0 a9 hs
    rw [hc, show ((46454944 : Int32)).toBitVec.toNat = 46454944 from rfl] at hn
    have v0 : zE ft a b 0 = 1 := by
      have z : E0 = 1 := by omega
      rw [z] at g0
      exact zEq g0 (by decide)
    have x0 := zEr hs a0 a9 0 (by decide) (by decide)
    rw [v0] at x0
    have v1 : zE ft a b 1 = 12 := by
      have z : E1 = 12 := by omega
      rw [z] at g1
      exact zEq g1 (by decide)
    have x1 := zEr hs a0 a9 1 (by decide) (by decide)
    rw [v1] at x1
    have v2 : zE ft a b 2 = 9 := by
      have z : E2 = 9 := by omega
      rw [z] at g2
      exact zEq g2 (by decide)
    have x2 := zEr hs a0 a9 2 (by decide) (by decide)
    rw [v2] at x2
    have v3 : zE ft a b 3 = 22 := by
      have z : E3 = 22 := by omega
      rw [z] at g3
      exact zEq g3 (by decide)
    have x3 := zEr hs a0 a9 3 (by decide) (by decide)
    rw [v3] at x3
    have v4 : zE ft a b 4 = 5 := by
      have z : E4 = 5 := by omega
      rw [z] at g4
      exact zEq g4 (by decide)
    have x4 := zEr hs a0 a9 4 (by decide) (by decide)
    rw [v4] at x4
    have v5 : zE ft a b 5 = 0 := by
      have z : E5 = 0 := by omega
      rw [z] at g5
      exact zEq g5 (by decide)
    have x5 := zEr hs a0 a9 5 (by decide) (by decide)
    rw [v5] at x5
    have y0 : ¬ b ≤ a + 0 ∧ ft ((a + 0).toNatClampNeg) = 97 := by
      rcases x0 with q | q
      · exact absurd q.2 (by decide)
      · exact ⟨q.1, by have q2 := q.2.1; lia⟩
    have y1 : ¬ b ≤ a + 1 ∧ ft ((a + 1).toNatClampNeg) = 108 := by
      rcases x1 with q | q
      · exact absurd q.2 (by decide)
      · exact ⟨q.1, by have q2 := q.2.1; lia⟩
    have y2 : ¬ b ≤ a + 2 ∧ ft ((a + 2).toNatClampNeg) = 105 := by
      rcases x2 with q | q
      · exact absurd q.2 (by decide)
      · exact ⟨q.1, by have q2 := q.2.1; lia⟩
    have y3 : ¬ b ≤ a + 3 ∧ ft ((a + 3).toNatClampNeg) = 118 := by
      rcases x3 with q | q
      · exact absurd q.2 (by decide)
      · exact ⟨q.1, by have q2 := q.2.1; lia⟩
    have y4 : ¬ b ≤ a + 4 ∧ ft ((a + 4).toNatClampNeg) = 101 := by
      rcases x4 with q | q
      · exact absurd q.2 (by decide)
      · exact ⟨q.1, by have q2 := q.2.1; lia⟩
    have y5 : b ≤ a + 5 := by
      rcases x5 with q | q
      · exact q.1
      · exact absurd q.2.2.1 (by decide)
    have y6 : b - a = 5 := by have u := y4.1; lia
    exact ⟨y6, y0.2, y1.2, y2.2, y3.2, y4.2⟩
def zM15 (ft : Nat → Int32) (a b : Int32) : Prop := b - a = 5 ∧ ft ((a + 0).toNatClampNeg) = 97 ∧ ft ((a + 1).toNatClampNeg) = 102 ∧ ft ((a + 2).toNatClampNeg) = 116 ∧ ft ((a + 3).toNatClampNeg) = 101 ∧ ft ((a + 4).toNatClampNeg) = 114
theorem zd15 {fw : Nat → Int32} (h : zWd fw) : fq_wordAt_d fw 78 118 0 = 5 := by
  rw [fq_wordAt_d, show ((78 : Int32) + 0).toNatClampNeg = 78 from rfl, zW78 h, if_neg (by decide), show (0 : Int32) + 1 = 1 from rfl]
  rw [fq_wordAt_d, show ((78 : Int32) + 1).toNatClampNeg = 79 from rfl, zW79 h, if_neg (by decide), show (1 : Int32) + 1 = 2 from rfl]
  rw [fq_wordAt_d, show ((78 : Int32) + 2).toNatClampNeg = 80 from rfl, zW80 h, if_neg (by decide), show (2 : Int32) + 1 = 3 from rfl]
  rw [fq_wordAt_d, show ((78 : Int32) + 3).toNatClampNeg = 81 from rfl, zW81 h, if_neg (by decide), show (3 : Int32) + 1 = 4 from rfl]
  rw [fq_wordAt_d, show ((78 : Int32) + 4).toNatClampNeg = 82 from rfl, zW82 h, if_neg (by decide), show (4 : Int32) + 1 = 5 from rfl]
  rw [fq_wordAt_d, show ((78 : Int32) + 5).toNatClampNeg = 83 from rfl, zW83 h, if_pos rfl]
theorem ze15 {ft fw : Nat → Int32} {a b : Int32} (h : zWd fw) (hb : b - a = 5) : ((fq_wordAt_e ft fw a 78 5 118 1 0).1 = 1 ∧ zM15 ft a b) ∨ ((fq_wordAt_e ft fw a 78 5 118 1 0).1 = 0 ∧ ¬ zM15 ft a b) := by
  rw [fq_wordAt_e, if_neg (by decide), if_neg (by decide), show ((78 : Int32) + 0).toNatClampNeg = 78 from rfl, zW78 h]
  by_cases c0 : (97 : Int32) = ft ((a + 0).toNatClampNeg)
  case neg =>
    rw [if_neg c0, fq_wordAt_e]
    refine Or.inr ⟨?_, fun z => c0 (z.2.1).symm⟩
    by_cases q : (5 : Int32) ≤ 0 + 1
    · rw [if_pos q]
    · rw [if_neg q, if_pos rfl]
  rw [if_pos c0, show (0 : Int32) + 1 = 1 from rfl]
  rw [fq_wordAt_e, if_neg (by decide), if_neg (by decide), show ((78 : Int32) + 1).toNatClampNeg = 79 from rfl, zW79 h]
  by_cases c1 : (102 : Int32) = ft ((a + 1).toNatClampNeg)
  case neg =>
    rw [if_neg c1, fq_wordAt_e]
    refine Or.inr ⟨?_, fun z => c1 (z.2.2.1).symm⟩
    by_cases q : (5 : Int32) ≤ 1 + 1
    · rw [if_pos q]
    · rw [if_neg q, if_pos rfl]
  rw [if_pos c1, show (1 : Int32) + 1 = 2 from rfl]
  rw [fq_wordAt_e, if_neg (by decide), if_neg (by decide), show ((78 : Int32) + 2).toNatClampNeg = 80 from rfl, zW80 h]
  by_cases c2 : (116 : Int32) = ft ((a + 2).toNatClampNeg)
  case neg =>
    rw [if_neg c2, fq_wordAt_e]
    refine Or.inr ⟨?_, fun z => c2 (z.2.2.2.1).symm⟩
    by_cases q : (5 : Int32) ≤ 2 + 1
    · rw [if_pos q]
    · rw [if_neg q, if_pos rfl]
  rw [if_pos c2, show (2 : Int32) + 1 = 3 from rfl]
  rw [fq_wordAt_e, if_neg (by decide), if_neg (by decide), show ((78 : Int32) + 3).toNatClampNeg = 81 from rfl, zW81 h]
  by_cases c3 : (101 : Int32) = ft ((a + 3).toNatClampNeg)
  case neg =>
    rw [if_neg c3, fq_wordAt_e]
    refine Or.inr ⟨?_, fun z => c3 (z.2.2.2.2.1).symm⟩
    by_cases q : (5 : Int32) ≤ 3 + 1
    · rw [if_pos q]
    · rw [if_neg q, if_pos rfl]
  rw [if_pos c3, show (3 : Int32) + 1 = 4 from rfl]
  rw [fq_wordAt_e, if_neg (by decide), if_neg (by decide), show ((78 : Int32) + 4).toNatClampNeg = 82 from rfl, zW82 h]
  by_cases c4 : (114 : Int32) = ft ((a + 4).toNatClampNeg)
  case neg =>
    rw [if_neg c4, fq_wordAt_e]
    refine Or.inr ⟨?_, fun z => c4 (z.2.2.2.2.2).symm⟩
    by_cases q : (5 : Int32) ≤ 4 + 1
    · rw [if_pos q]
    · rw [if_neg q, if_pos rfl]
  rw [if_pos c4, show (4 : Int32) + 1 = 5 from rfl]
  rw [fq_wordAt_e, if_pos (by decide)]
  exact Or.inl ⟨rfl, hb, c0.symm, c1.symm, c2.symm, c3.symm, c4.symm⟩
theorem zc15 {ft fw : Nat → Int32} {a b : Int32} (h : zWd fw) : (zM15 ft a b ∧ fq_wordAt_c ft fw a b 103 15 78 = 15) ∨ (¬ zM15 ft a b ∧ fq_wordAt_c ft fw a b 103 15 78 = fq_wordAt_c ft fw a b 102 16 84) := by
  rw [fq_wordAt_c, if_neg (by decide), xL_eq, zd15 h, show (78 : Int32) + (5 + 1) = 84 from rfl, show (15 : Int32) + 1 = 16 from rfl]
  by_cases c : (5 : Int32) = b - a
  · rw [if_pos c, xL_eq]
    rcases ze15 (ft := ft) h c.symm with ⟨e, q⟩ | ⟨e, q⟩
    · rw [e, if_neg (by decide)]; exact Or.inl ⟨q, rfl⟩
    · rw [e, if_pos rfl]; exact Or.inr ⟨q, rfl⟩
  · rw [if_neg c, xL_eq, show fq_wordAt_e ft fw a 78 5 118 0 0 = (0, 0) from by rw [fq_wordAt_e, if_neg (by decide), if_pos rfl], if_pos rfl]
    exact Or.inr ⟨fun q => c q.1.symm, rfl⟩
theorem zk15 {ft : Nat → Int32} {a b : Int32} (a0 : ¬ a < 0) (a9 : a ≤ 900) (b9 : b ≤ 900) (b0 : ¬ b < a) (hs : ∀ k : Int32, ¬ k < a → k < b → ¬ ft k.toNatClampNeg < 97 ∧ ft k.toNatClampNeg ≤ 122) : zM15 ft a b ↔ fq_packed ft a b = 40506944 := by
  constructor
  · intro hm
    have hb := hm.1
    rw [zpd a0 a9]
    rw [show zE ft a b 0 = 1 from by rw [zE, if_neg (by lia), hm.2.1]; rfl]
    rw [show zE ft a b 1 = 6 from by rw [zE, if_neg (by lia), hm.2.2.1]; rfl]
    rw [show zE ft a b 2 = 20 from by rw [zE, if_neg (by lia), hm.2.2.2.1]; rfl]
    rw [show zE ft a b 3 = 5 from by rw [zE, if_neg (by lia), hm.2.2.2.2.1]; rfl]
    rw [show zE ft a b 4 = 18 from by rw [zE, if_neg (by lia), hm.2.2.2.2.2]; rfl]
    rw [show zE ft a b 5 = 0 from by rw [zE, if_pos (by lia)]]
    rfl
  · intro hc
    obtain ⟨E0, E1, E2, E3, E4, E5, l0, l1, l2, l3, l4, l5, g0, g1, g2, g3, g4, g5, hn⟩ := zpn a0 a9 hs
    rw [hc, show ((40506944 : Int32)).toBitVec.toNat = 40506944 from rfl] at hn
    have v0 : zE ft a b 0 = 1 := by
      have z : E0 = 1 := by omega
      rw [z] at g0
      exact zEq g0 (by decide)
    have x0 := zEr hs a0 a9 0 (by decide) (by decide)
    rw [v0] at x0
    have v1 : zE ft a b 1 = 6 := by
      have z : E1 = 6 := by omega
      rw [z] at g1
      exact zEq g1 (by decide)
    have x1 := zEr hs a0 a9 1 (by decide) (by decide)
    rw [v1] at x1
    have v2 : zE ft a b 2 = 20 := by
      have z : E2 = 20 := by omega
      rw [z] at g2
      exact zEq g2 (by decide)
    have x2 := zEr hs a0 a9 2 (by decide) (by decide)
    rw [v2] at x2
    have v3 : zE ft a b 3 = 5 := by
      have z : E3 = 5 := by omega
      rw [z] at g3
      exact zEq g3 (by decide)
    have x3 := zEr hs a0 a9 3 (by decide) (by decide)
    rw [v3] at x3
    have v4 : zE ft a b 4 = 18 := by
      have z : E4 = 18 := by omega
      rw [z] at g4
      exact zEq g4 (by decide)
    have x4 := zEr hs a0 a9 4 (by decide) (by decide)
    rw [v4] at x4
    have v5 : zE ft a b 5 = 0 := by
      have z : E5 = 0 := by omega
      rw [z] at g5
      exact zEq g5 (by decide)
    have x5 := zEr hs a0 a9 5 (by decide) (by decide)
    rw [v5] at x5
    have y0 : ¬ b ≤ a + 0 ∧ ft ((a + 0).toNatClampNeg) = 97 := by
      rcases x0 with q | q
      · exact absurd q.2 (by decide)
      · exact ⟨q.1, by have q2 := q.2.1; lia⟩
    have y1 : ¬ b ≤ a + 1 ∧ ft ((a + 1).toNatClampNeg) = 102 := by
      rcases x1 with q | q
      · exact absurd q.2 (by decide)
      · exact ⟨q.1, by have q2 := q.2.1; lia⟩
    have y2 : ¬ b ≤ a + 2 ∧ ft ((a + 2).toNatClampNeg) = 116 := by
      rcases x2 with q | q
      · exact absurd q.2 (by decide)
      · exact ⟨q.1, by have q2 := q.2.1; lia⟩
    have y3 : ¬ b ≤ a + 3 ∧ ft ((a + 3).toNatClampNeg) = 101 := by
      rcases x3 with q | q
      · exact absurd q.2 (by decide)
      · exact ⟨q.1, by have q2 := q.2.1; lia⟩
    have y4 : ¬ b ≤ a + 4 ∧ ft ((a + 4).toNatClampNeg) = 114 := by
      rcases x4 with q | q
      · exact absurd q.2 (by decide)
      · exact ⟨q.1, by have q2 := q.2.1; lia⟩
    have y5 : b ≤ a + 5 := by
      rcases x5 with q | q
      · exact q.1
      · exact absurd q.2.2.1 (by decide)
    have y6 : b - a = 5 := by have u := y4.1; lia
    exact ⟨y6, y0.2, y1.2, y2.2, y3.2, y4.2⟩
def zM16 (ft : Nat → Int32) (a b : Int32) : Prop := b - a = 3 ∧ ft ((a + 0).toNatClampNeg) = 97 ∧ ft ((a + 1).toNatClampNeg) = 110 ∧ ft ((a + 2).toNatClampNeg) = 100
theorem zd16 {fw : Nat → Int32} (h : zWd fw) : fq_wordAt_d fw 84 118 0 = 3 := by
  rw [fq_wordAt_d, show ((84 : Int32) + 0).toNatClampNeg = 84 from rfl, zW84 h, if_neg (by decide), show (0 : Int32) + 1 = 1 from rfl]
  rw [fq_wordAt_d, show ((84 : Int32) + 1).toNatClampNeg = 85 from rfl, zW85 h, if_neg (by decide), show (1 : Int32) + 1 = 2 from rfl]
  rw [fq_wordAt_d, show ((84 : Int32) + 2).toNatClampNeg = 86 from rfl, zW86 h, if_neg (by decide), show (2 : Int32) + 1 = 3 from rfl]
  rw [fq_wordAt_d, show ((84 : Int32) + 3).toNatClampNeg = 87 from rfl, zW87 h, if_pos rfl]
theorem ze16 {ft fw : Nat → Int32} {a b : Int32} (h : zWd fw) (hb : b - a = 3) : ((fq_wordAt_e ft fw a 84 3 118 1 0).1 = 1 ∧ zM16 ft a b) ∨ ((fq_wordAt_e ft fw a 84 3 118 1 0).1 = 0 ∧ ¬ zM16 ft a b) := by
  rw [fq_wordAt_e, if_neg (by decide), if_neg (by decide), show ((84 : Int32) + 0).toNatClampNeg = 84 from rfl, zW84 h]
  by_cases c0 : (97 : Int32) = ft ((a + 0).toNatClampNeg)
  case neg =>
    rw [if_neg c0, fq_wordAt_e]
    refine Or.inr ⟨?_, fun z => c0 (z.2.1).symm⟩
    by_cases q : (3 : Int32) ≤ 0 + 1
    · rw [if_pos q]
    · rw [if_neg q, if_pos rfl]
  rw [if_pos c0, show (0 : Int32) + 1 = 1 from rfl]
  rw [fq_wordAt_e, if_neg (by decide), if_neg (by decide), show ((84 : Int32) + 1).toNatClampNeg = 85 from rfl, zW85 h]
  by_cases c1 : (110 : Int32) = ft ((a + 1).toNatClampNeg)
  case neg =>
    rw [if_neg c1, fq_wordAt_e]
    refine Or.inr ⟨?_, fun z => c1 (z.2.2.1).symm⟩
    by_cases q : (3 : Int32) ≤ 1 + 1
    · rw [if_pos q]
    · rw [if_neg q, if_pos rfl]
  rw [if_pos c1, show (1 : Int32) + 1 = 2 from rfl]
  rw [fq_wordAt_e, if_neg (by decide), if_neg (by decide), show ((84 : Int32) + 2).toNatClampNeg = 86 from rfl, zW86 h]
  by_cases c2 : (100 : Int32) = ft ((a + 2).toNatClampNeg)
  case neg =>
    rw [if_neg c2, fq_wordAt_e]
    refine Or.inr ⟨?_, fun z => c2 (z.2.2.2).symm⟩
    by_cases q : (3 : Int32) ≤ 2 + 1
    · rw [if_pos q]
    · rw [if_neg q, if_pos rfl]
  rw [if_pos c2, show (2 : Int32) + 1 = 3 from rfl]
  rw [fq_wordAt_e, if_pos (by decide)]
  exact Or.inl ⟨rfl, hb, c0.symm, c1.symm, c2.symm⟩
theorem zc16 {ft fw : Nat → Int32} {a b : Int32} (h : zWd fw) : (zM16 ft a b ∧ fq_wordAt_c ft fw a b 102 16 84 = 16) ∨ (¬ zM16 ft a b ∧ fq_wordAt_c ft fw a b 102 16 84 = fq_wordAt_c ft fw a b 101 17 88) := by
  rw [fq_wordAt_c, if_neg (by decide), xL_eq, zd16 h, show (84 : Int32) + (3 + 1) = 88 from rfl, show (16 : Int32) + 1 = 17 from rfl]
  by_cases c : (3 : Int32) = b - a
  · rw [if_pos c, xL_eq]
    rcases ze16 (ft := ft) h c.symm with ⟨e, q⟩ | ⟨e, q⟩
    · rw [e, if_neg (by decide)]; exact Or.inl ⟨q, rfl⟩
    · rw [e, if_pos rfl]; exact Or.inr ⟨q, rfl⟩
  · rw [if_neg c, xL_eq, show fq_wordAt_e ft fw a 84 3 118 0 0 = (0, 0) from by rw [fq_wordAt_e, if_neg (by decide), if_pos rfl], if_pos rfl]
    exact Or.inr ⟨fun q => c q.1.symm, rfl⟩
theorem zk16 {ft : Nat → Int32} {a b : Int32} (a0 : ¬ a < 0) (a9 : a ≤ 900) (b9 : b ≤ 900) (b0 : ¬ b < a) (hs : ∀ k : Int32, ¬ k < a → k < b → ¬ ft k.toNatClampNeg < 97 ∧ ft k.toNatClampNeg ≤ 122) : zM16 ft a b ↔ fq_packed ft a b = 48365568 := by
  constructor
  · intro hm
    have hb := hm.1
    rw [zpd a0 a9]
    rw [show zE ft a b 0 = 1 from by rw [zE, if_neg (by lia), hm.2.1]; rfl]
    rw [show zE ft a b 1 = 14 from by rw [zE, if_neg (by lia), hm.2.2.1]; rfl]
    rw [show zE ft a b 2 = 4 from by rw [zE, if_neg (by lia), hm.2.2.2]; rfl]
    rw [show zE ft a b 3 = 0 from by rw [zE, if_pos (by lia)]]
    rw [show zE ft a b 4 = 0 from by rw [zE, if_pos (by lia)]]
    rw [show zE ft a b 5 = 0 from by rw [zE, if_pos (by lia)]]
    rfl
  · intro hc
    obtain ⟨E0, E1, E2, E3, E4, E5, l0, l1, l2, l3, l4, l5, g0, g1, g2, g3, g4, g5, hn⟩ := zpn a0 a9 hs
    rw [hc, show ((48365568 : Int32)).toBitVec.toNat = 48365568 from rfl] at hn
    have v0 : zE ft a b 0 = 1 := by
      have z : E0 = 1 := by omega
      rw [z] at g0
      exact zEq g0 (by decide)
    have x0 := zEr hs a0 a9 0 (by decide) (by decide)
    rw [v0] at x0
    have v1 : zE ft a b 1 = 14 := by
      have z : E1 = 14 := by omega
      rw [z] at g1
      exact zEq g1 (by decide)
    have x1 := zEr hs a0 a9 1 (by decide) (by decide)
    rw [v1] at x1
    have v2 : zE ft a b 2 = 4 := by
      have z : E2 = 4 := by omega
      rw [z] at g2
      exact zEq g2 (by decide)
    have x2 := zEr hs a0 a9 2 (by decide) (by decide)
    rw [v2] at x2
    have v3 : zE ft a b 3 = 0 := by
      have z : E3 = 0 := by omega
      rw [z] at g3
      exact zEq g3 (by decide)
    have x3 := zEr hs a0 a9 3 (by decide) (by decide)
    rw [v3] at x3
    have v4 : zE ft a b 4 = 0 := by
      have z : E4 = 0 := by omega
      rw [z] at g4
      exact zEq g4 (by decide)
    have x4 := zEr hs a0 a9 4 (by decide) (by decide)
    rw [v4] at x4
    have v5 : zE ft a b 5 = 0 := by
      have z : E5 = 0 := by omega
      rw [z] at g5
      exact zEq g5 (by decide)
    have x5 := zEr hs a0 a9 5 (by decide) (by decide)
    rw [v5] at x5
    have y0 : ¬ b ≤ a + 0 ∧ ft ((a + 0).toNatClampNeg) = 97 := by
      rcases x0 with q | q
      · exact absurd q.2 (by decide)
      · exact ⟨q.1, by have q2 := q.2.1; lia⟩
    have y1 : ¬ b ≤ a + 1 ∧ ft ((a + 1).toNatClampNeg) = 110 := by
      rcases x1 with q | q
      · exact absurd q.2 (by decide)
      · exact ⟨q.1, by have q2 := q.2.1; lia⟩
    have y2 : ¬ b ≤ a + 2 ∧ ft ((a + 2).toNatClampNeg) = 100 := by
      rcases x2 with q | q
      · exact absurd q.2 (by decide)
      · exact ⟨q.1, by have q2 := q.2.1; lia⟩
    have y3 : b ≤ a + 3 := by
      rcases x3 with q | q
      · exact q.1
      · exact absurd q.2.2.1 (by decide)
    have y6 : b - a = 3 := by have u := y2.1; lia
    exact ⟨y6, y0.2, y1.2, y2.2⟩
def zM17 (ft : Nat → Int32) (a b : Int32) : Prop := b - a = 2 ∧ ft ((a + 0).toNatClampNeg) = 111 ∧ ft ((a + 1).toNatClampNeg) = 114
theorem zd17 {fw : Nat → Int32} (h : zWd fw) : fq_wordAt_d fw 88 118 0 = 2 := by
  rw [fq_wordAt_d, show ((88 : Int32) + 0).toNatClampNeg = 88 from rfl, zW88 h, if_neg (by decide), show (0 : Int32) + 1 = 1 from rfl]
  rw [fq_wordAt_d, show ((88 : Int32) + 1).toNatClampNeg = 89 from rfl, zW89 h, if_neg (by decide), show (1 : Int32) + 1 = 2 from rfl]
  rw [fq_wordAt_d, show ((88 : Int32) + 2).toNatClampNeg = 90 from rfl, zW90 h, if_pos rfl]
theorem ze17 {ft fw : Nat → Int32} {a b : Int32} (h : zWd fw) (hb : b - a = 2) : ((fq_wordAt_e ft fw a 88 2 118 1 0).1 = 1 ∧ zM17 ft a b) ∨ ((fq_wordAt_e ft fw a 88 2 118 1 0).1 = 0 ∧ ¬ zM17 ft a b) := by
  rw [fq_wordAt_e, if_neg (by decide), if_neg (by decide), show ((88 : Int32) + 0).toNatClampNeg = 88 from rfl, zW88 h]
  by_cases c0 : (111 : Int32) = ft ((a + 0).toNatClampNeg)
  case neg =>
    rw [if_neg c0, fq_wordAt_e]
    refine Or.inr ⟨?_, fun z => c0 (z.2.1).symm⟩
    by_cases q : (2 : Int32) ≤ 0 + 1
    · rw [if_pos q]
    · rw [if_neg q, if_pos rfl]
  rw [if_pos c0, show (0 : Int32) + 1 = 1 from rfl]
  rw [fq_wordAt_e, if_neg (by decide), if_neg (by decide), show ((88 : Int32) + 1).toNatClampNeg = 89 from rfl, zW89 h]
  by_cases c1 : (114 : Int32) = ft ((a + 1).toNatClampNeg)
  case neg =>
    rw [if_neg c1, fq_wordAt_e]
    refine Or.inr ⟨?_, fun z => c1 (z.2.2).symm⟩
    by_cases q : (2 : Int32) ≤ 1 + 1
    · rw [if_pos q]
    · rw [if_neg q, if_pos rfl]
  rw [if_pos c1, show (1 : Int32) + 1 = 2 from rfl]
  rw [fq_wordAt_e, if_pos (by decide)]
  exact Or.inl ⟨rfl, hb, c0.symm, c1.symm⟩
theorem zc17 {ft fw : Nat → Int32} {a b : Int32} (h : zWd fw) : (zM17 ft a b ∧ fq_wordAt_c ft fw a b 101 17 88 = 17) ∨ (¬ zM17 ft a b ∧ fq_wordAt_c ft fw a b 101 17 88 = fq_wordAt_c ft fw a b 100 18 91) := by
  rw [fq_wordAt_c, if_neg (by decide), xL_eq, zd17 h, show (88 : Int32) + (2 + 1) = 91 from rfl, show (17 : Int32) + 1 = 18 from rfl]
  by_cases c : (2 : Int32) = b - a
  · rw [if_pos c, xL_eq]
    rcases ze17 (ft := ft) h c.symm with ⟨e, q⟩ | ⟨e, q⟩
    · rw [e, if_neg (by decide)]; exact Or.inl ⟨q, rfl⟩
    · rw [e, if_pos rfl]; exact Or.inr ⟨q, rfl⟩
  · rw [if_neg c, xL_eq, show fq_wordAt_e ft fw a 88 2 118 0 0 = (0, 0) from by rw [fq_wordAt_e, if_neg (by decide), if_pos rfl], if_pos rfl]
    exact Or.inr ⟨fun q => c q.1.symm, rfl⟩
theorem zk17 {ft : Nat → Int32} {a b : Int32} (a0 : ¬ a < 0) (a9 : a ≤ 900) (b9 : b ≤ 900) (b0 : ¬ b < a) (hs : ∀ k : Int32, ¬ k < a → k < b → ¬ ft k.toNatClampNeg < 97 ∧ ft k.toNatClampNeg ≤ 122) : zM17 ft a b ↔ fq_packed ft a b = 522190848 := by
  constructor
  · intro hm
    have hb := hm.1
    rw [zpd a0 a9]
    rw [show zE ft a b 0 = 15 from by rw [zE, if_neg (by lia), hm.2.1]; rfl]
    rw [show zE ft a b 1 = 18 from by rw [zE, if_neg (by lia), hm.2.2]; rfl]
    rw [show zE ft a b 2 = 0 from by rw [zE, if_pos (by lia)]]
    rw [show zE ft a b 3 = 0 from by rw [zE, if_pos (by lia)]]
    rw [show zE ft a b 4 = 0 from by rw [zE, if_pos (by lia)]]
    rw [show zE ft a b 5 = 0 from by rw [zE, if_pos (by lia)]]
    rfl
  · intro hc
    obtain ⟨E0, E1, E2, E3, E4, E5, l0, l1, l2, l3, l4, l5, g0, g1, g2, g3, g4, g5, hn⟩ := zpn a0 a9 hs
    rw [hc, show ((522190848 : Int32)).toBitVec.toNat = 522190848 from rfl] at hn
    have v0 : zE ft a b 0 = 15 := by
      have z : E0 = 15 := by omega
      rw [z] at g0
      exact zEq g0 (by decide)
    have x0 := zEr hs a0 a9 0 (by decide) (by decide)
    rw [v0] at x0
    have v1 : zE ft a b 1 = 18 := by
      have z : E1 = 18 := by omega
      rw [z] at g1
      exact zEq g1 (by decide)
    have x1 := zEr hs a0 a9 1 (by decide) (by decide)
    rw [v1] at x1
    have v2 : zE ft a b 2 = 0 := by
      have z : E2 = 0 := by omega
      rw [z] at g2
      exact zEq g2 (by decide)
    have x2 := zEr hs a0 a9 2 (by decide) (by decide)
    rw [v2] at x2
    have v3 : zE ft a b 3 = 0 := by
      have z : E3 = 0 := by omega
      rw [z] at g3
      exact zEq g3 (by decide)
    have x3 := zEr hs a0 a9 3 (by decide) (by decide)
    rw [v3] at x3
    have v4 : zE ft a b 4 = 0 := by
      have z : E4 = 0 := by omega
      rw [z] at g4
      exact zEq g4 (by decide)
    have x4 := zEr hs a0 a9 4 (by decide) (by decide)
    rw [v4] at x4
    have v5 : zE ft a b 5 = 0 := by
      have z : E5 = 0 := by omega
      rw [z] at g5
      exact zEq g5 (by decide)
    have x5 := zEr hs a0 a9 5 (by decide) (by decide)
    rw [v5] at x5
    have y0 : ¬ b ≤ a + 0 ∧ ft ((a + 0).toNatClampNeg) = 111 := by
      rcases x0 with q | q
      · exact absurd q.2 (by decide)
      · exact ⟨q.1, by have q2 := q.2.1; lia⟩
    have y1 : ¬ b ≤ a + 1 ∧ ft ((a + 1).toNatClampNeg) = 114 := by
      rcases x1 with q | q
      · exact absurd q.2 (by decide)
      · exact ⟨q.1, by have q2 := q.2.1; lia⟩
    have y2 : b ≤ a + 2 := by
      rcases x2 with q | q
      · exact q.1
      · exact absurd q.2.2.1 (by decide)
    have y6 : b - a = 2 := by have u := y1.1; lia
    exact ⟨y6, y0.2, y1.2⟩
def zM18 (ft : Nat → Int32) (a b : Int32) : Prop := b - a = 3 ∧ ft ((a + 0).toNatClampNeg) = 110 ∧ ft ((a + 1).toNatClampNeg) = 111 ∧ ft ((a + 2).toNatClampNeg) = 116
theorem zd18 {fw : Nat → Int32} (h : zWd fw) : fq_wordAt_d fw 91 118 0 = 3 := by
  rw [fq_wordAt_d, show ((91 : Int32) + 0).toNatClampNeg = 91 from rfl, zW91 h, if_neg (by decide), show (0 : Int32) + 1 = 1 from rfl]
  rw [fq_wordAt_d, show ((91 : Int32) + 1).toNatClampNeg = 92 from rfl, zW92 h, if_neg (by decide), show (1 : Int32) + 1 = 2 from rfl]
  rw [fq_wordAt_d, show ((91 : Int32) + 2).toNatClampNeg = 93 from rfl, zW93 h, if_neg (by decide), show (2 : Int32) + 1 = 3 from rfl]
  rw [fq_wordAt_d, show ((91 : Int32) + 3).toNatClampNeg = 94 from rfl, zW94 h, if_pos rfl]
theorem ze18 {ft fw : Nat → Int32} {a b : Int32} (h : zWd fw) (hb : b - a = 3) : ((fq_wordAt_e ft fw a 91 3 118 1 0).1 = 1 ∧ zM18 ft a b) ∨ ((fq_wordAt_e ft fw a 91 3 118 1 0).1 = 0 ∧ ¬ zM18 ft a b) := by
  rw [fq_wordAt_e, if_neg (by decide), if_neg (by decide), show ((91 : Int32) + 0).toNatClampNeg = 91 from rfl, zW91 h]
  by_cases c0 : (110 : Int32) = ft ((a + 0).toNatClampNeg)
  case neg =>
    rw [if_neg c0, fq_wordAt_e]
    refine Or.inr ⟨?_, fun z => c0 (z.2.1).symm⟩
    by_cases q : (3 : Int32) ≤ 0 + 1
    · rw [if_pos q]
    · rw [if_neg q, if_pos rfl]
  rw [if_pos c0, show (0 : Int32) + 1 = 1 from rfl]
  rw [fq_wordAt_e, if_neg (by decide), if_neg (by decide), show ((91 : Int32) + 1).toNatClampNeg = 92 from rfl, zW92 h]
  by_cases c1 : (111 : Int32) = ft ((a + 1).toNatClampNeg)
  case neg =>
    rw [if_neg c1, fq_wordAt_e]
    refine Or.inr ⟨?_, fun z => c1 (z.2.2.1).symm⟩
    by_cases q : (3 : Int32) ≤ 1 + 1
    · rw [if_pos q]
    · rw [if_neg q, if_pos rfl]
  rw [if_pos c1, show (1 : Int32) + 1 = 2 from rfl]
  rw [fq_wordAt_e, if_neg (by decide), if_neg (by decide), show ((91 : Int32) + 2).toNatClampNeg = 93 from rfl, zW93 h]
  by_cases c2 : (116 : Int32) = ft ((a + 2).toNatClampNeg)
  case neg =>
    rw [if_neg c2, fq_wordAt_e]
    refine Or.inr ⟨?_, fun z => c2 (z.2.2.2).symm⟩
    by_cases q : (3 : Int32) ≤ 2 + 1
    · rw [if_pos q]
    · rw [if_neg q, if_pos rfl]
  rw [if_pos c2, show (2 : Int32) + 1 = 3 from rfl]
  rw [fq_wordAt_e, if_pos (by decide)]
  exact Or.inl ⟨rfl, hb, c0.symm, c1.symm, c2.symm⟩
theorem zc18 {ft fw : Nat → Int32} {a b : Int32} (h : zWd fw) : (zM18 ft a b ∧ fq_wordAt_c ft fw a b 100 18 91 = 18) ∨ (¬ zM18 ft a b ∧ fq_wordAt_c ft fw a b 100 18 91 = fq_wordAt_c ft fw a b 99 19 95) := by
  rw [fq_wordAt_c, if_neg (by decide), xL_eq, zd18 h, show (91 : Int32) + (3 + 1) = 95 from rfl, show (18 : Int32) + 1 = 19 from rfl]
  by_cases c : (3 : Int32) = b - a
  · rw [if_pos c, xL_eq]
    rcases ze18 (ft := ft) h c.symm with ⟨e, q⟩ | ⟨e, q⟩
    · rw [e, if_neg (by decide)]; exact Or.inl ⟨q, rfl⟩
    · rw [e, if_pos rfl]; exact Or.inr ⟨q, rfl⟩
  · rw [if_neg c, xL_eq, show fq_wordAt_e ft fw a 91 3 118 0 0 = (0, 0) from by rw [fq_wordAt_e, if_neg (by decide), if_pos rfl], if_pos rfl]
    exact Or.inr ⟨fun q => c q.1.symm, rfl⟩
theorem zk18 {ft : Nat → Int32} {a b : Int32} (a0 : ¬ a < 0) (a9 : a ≤ 900) (b9 : b ≤ 900) (b0 : ¬ b < a) (hs : ∀ k : Int32, ¬ k < a → k < b → ¬ ft k.toNatClampNeg < 97 ∧ ft k.toNatClampNeg ≤ 122) : zM18 ft a b ↔ fq_packed ft a b = 486146048 := by
  constructor
  · intro hm
    have hb := hm.1
    rw [zpd a0 a9]
    rw [show zE ft a b 0 = 14 from by rw [zE, if_neg (by lia), hm.2.1]; rfl]
    rw [show zE ft a b 1 = 15 from by rw [zE, if_neg (by lia), hm.2.2.1]; rfl]
    rw [show zE ft a b 2 = 20 from by rw [zE, if_neg (by lia), hm.2.2.2]; rfl]
    rw [show zE ft a b 3 = 0 from by rw [zE, if_pos (by lia)]]
    rw [show zE ft a b 4 = 0 from by rw [zE, if_pos (by lia)]]
    rw [show zE ft a b 5 = 0 from by rw [zE, if_pos (by lia)]]
    rfl
  · intro hc
    obtain ⟨E0, E1, E2, E3, E4, E5, l0, l1, l2, l3, l4, l5, g0, g1, g2, g3, g4, g5, hn⟩ := zpn a0 a9 hs
    rw [hc, show ((486146048 : Int32)).toBitVec.toNat = 486146048 from rfl] at hn
    have v0 : zE ft a b 0 = 14 := by
      have z : E0 = 14 := by omega
      rw [z] at g0
      exact zEq g0 (by decide)
    have x0 := zEr hs a0 a9 0 (by decide) (by decide)
    rw [v0] at x0
    have v1 : zE ft a b 1 = 15 := by
      have z : E1 = 15 := by omega
      rw [z] at g1
      exact zEq g1 (by decide)
    have x1 := zEr hs a0 a9 1 (by decide) (by decide)
    rw [v1] at x1
    have v2 : zE ft a b 2 = 20 := by
      have z : E2 = 20 := by omega
      rw [z] at g2
      exact zEq g2 (by decide)
    have x2 := zEr hs a0 a9 2 (by decide) (by decide)
    rw [v2] at x2
    have v3 : zE ft a b 3 = 0 := by
      have z : E3 = 0 := by omega
      rw [z] at g3
      exact zEq g3 (by decide)
    have x3 := zEr hs a0 a9 3 (by decide) (by decide)
    rw [v3] at x3
    have v4 : zE ft a b 4 = 0 := by
      have z : E4 = 0 := by omega
      rw [z] at g4
      exact zEq g4 (by decide)
    have x4 := zEr hs a0 a9 4 (by decide) (by decide)
    rw [v4] at x4
    have v5 : zE ft a b 5 = 0 := by
      have z : E5 = 0 := by omega
      rw [z] at g5
      exact zEq g5 (by decide)
    have x5 := zEr hs a0 a9 5 (by decide) (by decide)
    rw [v5] at x5
    have y0 : ¬ b ≤ a + 0 ∧ ft ((a + 0).toNatClampNeg) = 110 := by
      rcases x0 with q | q
      · exact absurd q.2 (by decide)
      · exact ⟨q.1, by have q2 := q.2.1; lia⟩
    have y1 : ¬ b ≤ a + 1 ∧ ft ((a + 1).toNatClampNeg) = 111 := by
      rcases x1 with q | q
      · exact absurd q.2 (by decide)
      · exact ⟨q.1, by have q2 := q.2.1; lia⟩
    have y2 : ¬ b ≤ a + 2 ∧ ft ((a + 2).toNatClampNeg) = 116 := by
      rcases x2 with q | q
      · exact absurd q.2 (by decide)
      · exact ⟨q.1, by have q2 := q.2.1; lia⟩
    have y3 : b ≤ a + 3 := by
      rcases x3 with q | q
      · exact q.1
      · exact absurd q.2.2.1 (by decide)
    have y6 : b - a = 3 := by have u := y2.1; lia
    exact ⟨y6, y0.2, y1.2, y2.2⟩
def zM19 (ft : Nat → Int32) (a b : Int32) : Prop := b - a = 3 ∧ ft ((a + 0).toNatClampNeg) = 100 ∧ ft ((a + 1).toNatClampNeg) = 97 ∧ ft ((a + 2).toNatClampNeg) = 121
theorem zd19 {fw : Nat → Int32} (h : zWd fw) : fq_wordAt_d fw 95 118 0 = 3 := by
  rw [fq_wordAt_d, show ((95 : Int32) + 0).toNatClampNeg = 95 from rfl, zW95 h, if_neg (by decide), show (0 : Int32) + 1 = 1 from rfl]
  rw [fq_wordAt_d, show ((95 : Int32) + 1).toNatClampNeg = 96 from rfl, zW96 h, if_neg (by decide), show (1 : Int32) + 1 = 2 from rfl]
  rw [fq_wordAt_d, show ((95 : Int32) + 2).toNatClampNeg = 97 from rfl, zW97 h, if_neg (by decide), show (2 : Int32) + 1 = 3 from rfl]
  rw [fq_wordAt_d, show ((95 : Int32) + 3).toNatClampNeg = 98 from rfl, zW98 h, if_pos rfl]
theorem ze19 {ft fw : Nat → Int32} {a b : Int32} (h : zWd fw) (hb : b - a = 3) : ((fq_wordAt_e ft fw a 95 3 118 1 0).1 = 1 ∧ zM19 ft a b) ∨ ((fq_wordAt_e ft fw a 95 3 118 1 0).1 = 0 ∧ ¬ zM19 ft a b) := by
  rw [fq_wordAt_e, if_neg (by decide), if_neg (by decide), show ((95 : Int32) + 0).toNatClampNeg = 95 from rfl, zW95 h]
  by_cases c0 : (100 : Int32) = ft ((a + 0).toNatClampNeg)
  case neg =>
    rw [if_neg c0, fq_wordAt_e]
    refine Or.inr ⟨?_, fun z => c0 (z.2.1).symm⟩
    by_cases q : (3 : Int32) ≤ 0 + 1
    · rw [if_pos q]
    · rw [if_neg q, if_pos rfl]
  rw [if_pos c0, show (0 : Int32) + 1 = 1 from rfl]
  rw [fq_wordAt_e, if_neg (by decide), if_neg (by decide), show ((95 : Int32) + 1).toNatClampNeg = 96 from rfl, zW96 h]
  by_cases c1 : (97 : Int32) = ft ((a + 1).toNatClampNeg)
  case neg =>
    rw [if_neg c1, fq_wordAt_e]
    refine Or.inr ⟨?_, fun z => c1 (z.2.2.1).symm⟩
    by_cases q : (3 : Int32) ≤ 1 + 1
    · rw [if_pos q]
    · rw [if_neg q, if_pos rfl]
  rw [if_pos c1, show (1 : Int32) + 1 = 2 from rfl]
  rw [fq_wordAt_e, if_neg (by decide), if_neg (by decide), show ((95 : Int32) + 2).toNatClampNeg = 97 from rfl, zW97 h]
  by_cases c2 : (121 : Int32) = ft ((a + 2).toNatClampNeg)
  case neg =>
    rw [if_neg c2, fq_wordAt_e]
    refine Or.inr ⟨?_, fun z => c2 (z.2.2.2).symm⟩
    by_cases q : (3 : Int32) ≤ 2 + 1
    · rw [if_pos q]
    · rw [if_neg q, if_pos rfl]
  rw [if_pos c2, show (2 : Int32) + 1 = 3 from rfl]
  rw [fq_wordAt_e, if_pos (by decide)]
  exact Or.inl ⟨rfl, hb, c0.symm, c1.symm, c2.symm⟩
theorem zc19 {ft fw : Nat → Int32} {a b : Int32} (h : zWd fw) : (zM19 ft a b ∧ fq_wordAt_c ft fw a b 99 19 95 = 19) ∨ (¬ zM19 ft a b ∧ fq_wordAt_c ft fw a b 99 19 95 = fq_wordAt_c ft fw a b 98 20 99) := by
  rw [fq_wordAt_c, if_neg (by decide), xL_eq, zd19 h, show (95 : Int32) + (3 + 1) = 99 from rfl, show (19 : Int32) + 1 = 20 from rfl]
  by_cases c : (3 : Int32) = b - a
  · rw [if_pos c, xL_eq]
    rcases ze19 (ft := ft) h c.symm with ⟨e, q⟩ | ⟨e, q⟩
    · rw [e, if_neg (by decide)]; exact Or.inl ⟨q, rfl⟩
    · rw [e, if_pos rfl]; exact Or.inr ⟨q, rfl⟩
  · rw [if_neg c, xL_eq, show fq_wordAt_e ft fw a 95 3 118 0 0 = (0, 0) from by rw [fq_wordAt_e, if_neg (by decide), if_pos rfl], if_pos rfl]
    exact Or.inr ⟨fun q => c q.1.symm, rfl⟩
theorem zk19 {ft : Nat → Int32} {a b : Int32} (a0 : ¬ a < 0) (a9 : a ≤ 900) (b9 : b ≤ 900) (b0 : ¬ b < a) (hs : ∀ k : Int32, ¬ k < a → k < b → ¬ ft k.toNatClampNeg < 97 ∧ ft k.toNatClampNeg ≤ 122) : zM19 ft a b ↔ fq_packed ft a b = 136085504 := by
  constructor
  · intro hm
    have hb := hm.1
    rw [zpd a0 a9]
    rw [show zE ft a b 0 = 4 from by rw [zE, if_neg (by lia), hm.2.1]; rfl]
    rw [show zE ft a b 1 = 1 from by rw [zE, if_neg (by lia), hm.2.2.1]; rfl]
    rw [show zE ft a b 2 = 25 from by rw [zE, if_neg (by lia), hm.2.2.2]; rfl]
    rw [show zE ft a b 3 = 0 from by rw [zE, if_pos (by lia)]]
    rw [show zE ft a b 4 = 0 from by rw [zE, if_pos (by lia)]]
    rw [show zE ft a b 5 = 0 from by rw [zE, if_pos (by lia)]]
    rfl
  · intro hc
    obtain ⟨E0, E1, E2, E3, E4, E5, l0, l1, l2, l3, l4, l5, g0, g1, g2, g3, g4, g5, hn⟩ := zpn a0 a9 hs
    rw [hc, show ((136085504 : Int32)).toBitVec.toNat = 136085504 from rfl] at hn
    have v0 : zE ft a b 0 = 4 := by
      have z : E0 = 4 := by omega
      rw [z] at g0
      exact zEq g0 (by decide)
    have x0 := zEr hs a0 a9 0 (by decide) (by decide)
    rw [v0] at x0
    have v1 : zE ft a b 1 = 1 := by
      have z : E1 = 1 := by omega
      rw [z] at g1
      exact zEq g1 (by decide)
    have x1 := zEr hs a0 a9 1 (by decide) (by decide)
    rw [v1] at x1
    have v2 : zE ft a b 2 = 25 := by
      have z : E2 = 25 := by omega
      rw [z] at g2
      exact zEq g2 (by decide)
    have x2 := zEr hs a0 a9 2 (by decide) (by decide)
    rw [v2] at x2
    have v3 : zE ft a b 3 = 0 := by
      have z : E3 = 0 := by omega
      rw [z] at g3
      exact zEq g3 (by decide)
    have x3 := zEr hs a0 a9 3 (by decide) (by decide)
    rw [v3] at x3
    have v4 : zE ft a b 4 = 0 := by
      have z : E4 = 0 := by omega
      rw [z] at g4
      exact zEq g4 (by decide)
    have x4 := zEr hs a0 a9 4 (by decide) (by decide)
    rw [v4] at x4
    have v5 : zE ft a b 5 = 0 := by
      have z : E5 = 0 := by omega
      rw [z] at g5
      exact zEq g5 (by decide)
    have x5 := zEr hs a0 a9 5 (by decide) (by decide)
    rw [v5] at x5
    have y0 : ¬ b ≤ a + 0 ∧ ft ((a + 0).toNatClampNeg) = 100 := by
      rcases x0 with q | q
      · exact absurd q.2 (by decide)
      · exact ⟨q.1, by have q2 := q.2.1; lia⟩
    have y1 : ¬ b ≤ a + 1 ∧ ft ((a + 1).toNatClampNeg) = 97 := by
      rcases x1 with q | q
      · exact absurd q.2 (by decide)
      · exact ⟨q.1, by have q2 := q.2.1; lia⟩
    have y2 : ¬ b ≤ a + 2 ∧ ft ((a + 2).toNatClampNeg) = 121 := by
      rcases x2 with q | q
      · exact absurd q.2 (by decide)
      · exact ⟨q.1, by have q2 := q.2.1; lia⟩
    have y3 : b ≤ a + 3 := by
      rcases x3 with q | q
      · exact q.1
      · exact absurd q.2.2.1 (by decide)
    have y6 : b - a = 3 := by have u := y2.1; lia
    exact ⟨y6, y0.2, y1.2, y2.2⟩
def zM20 (ft : Nat → Int32) (a b : Int32) : Prop := b - a = 4 ∧ ft ((a + 0).toNatClampNeg) = 121 ∧ ft ((a + 1).toNatClampNeg) = 101 ∧ ft ((a + 2).toNatClampNeg) = 97 ∧ ft ((a + 3).toNatClampNeg) = 114
theorem zd20 {fw : Nat → Int32} (h : zWd fw) : fq_wordAt_d fw 99 118 0 = 4 := by
  rw [fq_wordAt_d, show ((99 : Int32) + 0).toNatClampNeg = 99 from rfl, zW99 h, if_neg (by decide), show (0 : Int32) + 1 = 1 from rfl]
  rw [fq_wordAt_d, show ((99 : Int32) + 1).toNatClampNeg = 100 from rfl, zW100 h, if_neg (by decide), show (1 : Int32) + 1 = 2 from rfl]
  rw [fq_wordAt_d, show ((99 : Int32) + 2).toNatClampNeg = 101 from rfl, zW101 h, if_neg (by decide), show (2 : Int32) + 1 = 3 from rfl]
  rw [fq_wordAt_d, show ((99 : Int32) + 3).toNatClampNeg = 102 from rfl, zW102 h, if_neg (by decide), show (3 : Int32) + 1 = 4 from rfl]
  rw [fq_wordAt_d, show ((99 : Int32) + 4).toNatClampNeg = 103 from rfl, zW103 h, if_pos rfl]
theorem ze20 {ft fw : Nat → Int32} {a b : Int32} (h : zWd fw) (hb : b - a = 4) : ((fq_wordAt_e ft fw a 99 4 118 1 0).1 = 1 ∧ zM20 ft a b) ∨ ((fq_wordAt_e ft fw a 99 4 118 1 0).1 = 0 ∧ ¬ zM20 ft a b) := by
  rw [fq_wordAt_e, if_neg (by decide), if_neg (by decide), show ((99 : Int32) + 0).toNatClampNeg = 99 from rfl, zW99 h]
  by_cases c0 : (121 : Int32) = ft ((a + 0).toNatClampNeg)
  case neg =>
    rw [if_neg c0, fq_wordAt_e]
    refine Or.inr ⟨?_, fun z => c0 (z.2.1).symm⟩
    by_cases q : (4 : Int32) ≤ 0 + 1
    · rw [if_pos q]
    · rw [if_neg q, if_pos rfl]
  rw [if_pos c0, show (0 : Int32) + 1 = 1 from rfl]
  rw [fq_wordAt_e, if_neg (by decide), if_neg (by decide), show ((99 : Int32) + 1).toNatClampNeg = 100 from rfl, zW100 h]
  by_cases c1 : (101 : Int32) = ft ((a + 1).toNatClampNeg)
  case neg =>
    rw [if_neg c1, fq_wordAt_e]
    refine Or.inr ⟨?_, fun z => c1 (z.2.2.1).symm⟩
    by_cases q : (4 : Int32) ≤ 1 + 1
    · rw [if_pos q]
    · rw [if_neg q, if_pos rfl]
  rw [if_pos c1, show (1 : Int32) + 1 = 2 from rfl]
  rw [fq_wordAt_e, if_neg (by decide), if_neg (by decide), show ((99 : Int32) + 2).toNatClampNeg = 101 from rfl, zW101 h]
  by_cases c2 : (97 : Int32) = ft ((a + 2).toNatClampNeg)
  case neg =>
    rw [if_neg c2, fq_wordAt_e]
    refine Or.inr ⟨?_, fun z => c2 (z.2.2.2.1).symm⟩
    by_cases q : (4 : Int32) ≤ 2 + 1
    · rw [if_pos q]
    · rw [if_neg q, if_pos rfl]
  rw [if_pos c2, show (2 : Int32) + 1 = 3 from rfl]
  rw [fq_wordAt_e, if_neg (by decide), if_neg (by decide), show ((99 : Int32) + 3).toNatClampNeg = 102 from rfl, zW102 h]
  by_cases c3 : (114 : Int32) = ft ((a + 3).toNatClampNeg)
  case neg =>
    rw [if_neg c3, fq_wordAt_e]
    refine Or.inr ⟨?_, fun z => c3 (z.2.2.2.2).symm⟩
    by_cases q : (4 : Int32) ≤ 3 + 1
    · rw [if_pos q]
    · rw [if_neg q, if_pos rfl]
  rw [if_pos c3, show (3 : Int32) + 1 = 4 from rfl]
  rw [fq_wordAt_e, if_pos (by decide)]
  exact Or.inl ⟨rfl, hb, c0.symm, c1.symm, c2.symm, c3.symm⟩
theorem zc20 {ft fw : Nat → Int32} {a b : Int32} (h : zWd fw) : (zM20 ft a b ∧ fq_wordAt_c ft fw a b 98 20 99 = 20) ∨ (¬ zM20 ft a b ∧ fq_wordAt_c ft fw a b 98 20 99 = fq_wordAt_c ft fw a b 97 21 104) := by
  rw [fq_wordAt_c, if_neg (by decide), xL_eq, zd20 h, show (99 : Int32) + (4 + 1) = 104 from rfl, show (20 : Int32) + 1 = 21 from rfl]
  by_cases c : (4 : Int32) = b - a
  · rw [if_pos c, xL_eq]
    rcases ze20 (ft := ft) h c.symm with ⟨e, q⟩ | ⟨e, q⟩
    · rw [e, if_neg (by decide)]; exact Or.inl ⟨q, rfl⟩
    · rw [e, if_pos rfl]; exact Or.inr ⟨q, rfl⟩
  · rw [if_neg c, xL_eq, show fq_wordAt_e ft fw a 99 4 118 0 0 = (0, 0) from by rw [fq_wordAt_e, if_neg (by decide), if_pos rfl], if_pos rfl]
    exact Or.inr ⟨fun q => c q.1.symm, rfl⟩
theorem zk20 {ft : Nat → Int32} {a b : Int32} (a0 : ¬ a < 0) (a9 : a ≤ 900) (b9 : b ≤ 900) (b0 : ¬ b < a) (hs : ∀ k : Int32, ¬ k < a → k < b → ¬ ft k.toNatClampNeg < 97 ∧ ft k.toNatClampNeg ≤ 122) : zM20 ft a b ↔ fq_packed ft a b = 844154880 := by
  constructor
  · intro hm
    have hb := hm.1
    rw [zpd a0 a9]
    rw [show zE ft a b 0 = 25 from by rw [zE, if_neg (by lia), hm.2.1]; rfl]
    rw [show zE ft a b 1 = 5 from by rw [zE, if_neg (by lia), hm.2.2.1]; rfl]
    rw [show zE ft a b 2 = 1 from by rw [zE, if_neg (by lia), hm.2.2.2.1]; rfl]
    rw [show zE ft a b 3 = 18 from by rw [zE, if_neg (by lia), hm.2.2.2.2]; rfl]
    rw [show zE ft a b 4 = 0 from by rw [zE, if_pos (by lia)]]
    rw [show zE ft a b 5 = 0 from by rw [zE, if_pos (by lia)]]
    rfl
  · intro hc
    obtain ⟨E0, E1, E2, E3, E4, E5, l0, l1, l2, l3, l4, l5, g0, g1, g2, g3, g4, g5, hn⟩ := zpn a0 a9 hs
    rw [hc, show ((844154880 : Int32)).toBitVec.toNat = 844154880 from rfl] at hn
    have v0 : zE ft a b 0 = 25 := by
      have z : E0 = 25 := by omega
      rw [z] at g0
      exact zEq g0 (by decide)
    have x0 := zEr hs a0 a9 0 (by decide) (by decide)
    rw [v0] at x0
    have v1 : zE ft a b 1 = 5 := by
      have z : E1 = 5 := by omega
      rw [z] at g1
      exact zEq g1 (by decide)
    have x1 := zEr hs a0 a9 1 (by decide) (by decide)
    rw [v1] at x1
    have v2 : zE ft a b 2 = 1 := by
      have z : E2 = 1 := by omega
      rw [z] at g2
      exact zEq g2 (by decide)
    have x2 := zEr hs a0 a9 2 (by decide) (by decide)
    rw [v2] at x2
    have v3 : zE ft a b 3 = 18 := by
      have z : E3 = 18 := by omega
      rw [z] at g3
      exact zEq g3 (by decide)
    have x3 := zEr hs a0 a9 3 (by decide) (by decide)
    rw [v3] at x3
    have v4 : zE ft a b 4 = 0 := by
      have z : E4 = 0 := by omega
      rw [z] at g4
      exact zEq g4 (by decide)
    have x4 := zEr hs a0 a9 4 (by decide) (by decide)
    rw [v4] at x4
    have v5 : zE ft a b 5 = 0 := by
      have z : E5 = 0 := by omega
      rw [z] at g5
      exact zEq g5 (by decide)
    have x5 := zEr hs a0 a9 5 (by decide) (by decide)
    rw [v5] at x5
    have y0 : ¬ b ≤ a + 0 ∧ ft ((a + 0).toNatClampNeg) = 121 := by
      rcases x0 with q | q
      · exact absurd q.2 (by decide)
      · exact ⟨q.1, by have q2 := q.2.1; lia⟩
    have y1 : ¬ b ≤ a + 1 ∧ ft ((a + 1).toNatClampNeg) = 101 := by
      rcases x1 with q | q
      · exact absurd q.2 (by decide)
      · exact ⟨q.1, by have q2 := q.2.1; lia⟩
    have y2 : ¬ b ≤ a + 2 ∧ ft ((a + 2).toNatClampNeg) = 97 := by
      rcases x2 with q | q
      · exact absurd q.2 (by decide)
      · exact ⟨q.1, by have q2 := q.2.1; lia⟩
    have y3 : ¬ b ≤ a + 3 ∧ ft ((a + 3).toNatClampNeg) = 114 := by
      rcases x3 with q | q
      · exact absurd q.2 (by decide)
      · exact ⟨q.1, by have q2 := q.2.1; lia⟩
    have y4 : b ≤ a + 4 := by
      rcases x4 with q | q
      · exact q.1
      · exact absurd q.2.2.1 (by decide)
    have y6 : b - a = 4 := by have u := y3.1; lia
    exact ⟨y6, y0.2, y1.2, y2.2, y3.2⟩
def zM21 (ft : Nat → Int32) (a b : Int32) : Prop := b - a = 6 ∧ ft ((a + 0).toNatClampNeg) = 115 ∧ ft ((a + 1).toNatClampNeg) = 101 ∧ ft ((a + 2).toNatClampNeg) = 97 ∧ ft ((a + 3).toNatClampNeg) = 115 ∧ ft ((a + 4).toNatClampNeg) = 111 ∧ ft ((a + 5).toNatClampNeg) = 110
theorem zd21 {fw : Nat → Int32} (h : zWd fw) : fq_wordAt_d fw 104 118 0 = 6 := by
  rw [fq_wordAt_d, show ((104 : Int32) + 0).toNatClampNeg = 104 from rfl, zW104 h, if_neg (by decide), show (0 : Int32) + 1 = 1 from rfl]
  rw [fq_wordAt_d, show ((104 : Int32) + 1).toNatClampNeg = 105 from rfl, zW105 h, if_neg (by decide), show (1 : Int32) + 1 = 2 from rfl]
  rw [fq_wordAt_d, show ((104 : Int32) + 2).toNatClampNeg = 106 from rfl, zW106 h, if_neg (by decide), show (2 : Int32) + 1 = 3 from rfl]
  rw [fq_wordAt_d, show ((104 : Int32) + 3).toNatClampNeg = 107 from rfl, zW107 h, if_neg (by decide), show (3 : Int32) + 1 = 4 from rfl]
  rw [fq_wordAt_d, show ((104 : Int32) + 4).toNatClampNeg = 108 from rfl, zW108 h, if_neg (by decide), show (4 : Int32) + 1 = 5 from rfl]
  rw [fq_wordAt_d, show ((104 : Int32) + 5).toNatClampNeg = 109 from rfl, zW109 h, if_neg (by decide), show (5 : Int32) + 1 = 6 from rfl]
  rw [fq_wordAt_d, show ((104 : Int32) + 6).toNatClampNeg = 110 from rfl, zW110 h, if_pos rfl]
theorem ze21 {ft fw : Nat → Int32} {a b : Int32} (h : zWd fw) (hb : b - a = 6) : ((fq_wordAt_e ft fw a 104 6 118 1 0).1 = 1 ∧ zM21 ft a b) ∨ ((fq_wordAt_e ft fw a 104 6 118 1 0).1 = 0 ∧ ¬ zM21 ft a b) := by
  rw [fq_wordAt_e, if_neg (by decide), if_neg (by decide), show ((104 : Int32) + 0).toNatClampNeg = 104 from rfl, zW104 h]
  by_cases c0 : (115 : Int32) = ft ((a + 0).toNatClampNeg)
  case neg =>
    rw [if_neg c0, fq_wordAt_e]
    refine Or.inr ⟨?_, fun z => c0 (z.2.1).symm⟩
    by_cases q : (6 : Int32) ≤ 0 + 1
    · rw [if_pos q]
    · rw [if_neg q, if_pos rfl]
  rw [if_pos c0, show (0 : Int32) + 1 = 1 from rfl]
  rw [fq_wordAt_e, if_neg (by decide), if_neg (by decide), show ((104 : Int32) + 1).toNatClampNeg = 105 from rfl, zW105 h]
  by_cases c1 : (101 : Int32) = ft ((a + 1).toNatClampNeg)
  case neg =>
    rw [if_neg c1, fq_wordAt_e]
    refine Or.inr ⟨?_, fun z => c1 (z.2.2.1).symm⟩
    by_cases q : (6 : Int32) ≤ 1 + 1
    · rw [if_pos q]
    · rw [if_neg q, if_pos rfl]
  rw [if_pos c1, show (1 : Int32) + 1 = 2 from rfl]
  rw [fq_wordAt_e, if_neg (by decide), if_neg (by decide), show ((104 : Int32) + 2).toNatClampNeg = 106 from rfl, zW106 h]
  by_cases c2 : (97 : Int32) = ft ((a + 2).toNatClampNeg)
  case neg =>
    rw [if_neg c2, fq_wordAt_e]
    refine Or.inr ⟨?_, fun z => c2 (z.2.2.2.1).symm⟩
    by_cases q : (6 : Int32) ≤ 2 + 1
    · rw [if_pos q]
    · rw [if_neg q, if_pos rfl]
  rw [if_pos c2, show (2 : Int32) + 1 = 3 from rfl]
  rw [fq_wordAt_e, if_neg (by decide), if_neg (by decide), show ((104 : Int32) + 3).toNatClampNeg = 107 from rfl, zW107 h]
  by_cases c3 : (115 : Int32) = ft ((a + 3).toNatClampNeg)
  case neg =>
    rw [if_neg c3, fq_wordAt_e]
    refine Or.inr ⟨?_, fun z => c3 (z.2.2.2.2.1).symm⟩
    by_cases q : (6 : Int32) ≤ 3 + 1
    · rw [if_pos q]
    · rw [if_neg q, if_pos rfl]
  rw [if_pos c3, show (3 : Int32) + 1 = 4 from rfl]
  rw [fq_wordAt_e, if_neg (by decide), if_neg (by decide), show ((104 : Int32) + 4).toNatClampNeg = 108 from rfl, zW108 h]
  by_cases c4 : (111 : Int32) = ft ((a + 4).toNatClampNeg)
  case neg =>
    rw [if_neg c4, fq_wordAt_e]
    refine Or.inr ⟨?_, fun z => c4 (z.2.2.2.2.2.1).symm⟩
    by_cases q : (6 : Int32) ≤ 4 + 1
    · rw [if_pos q]
    · rw [if_neg q, if_pos rfl]
  rw [if_pos c4, show (4 : Int32) + 1 = 5 from rfl]
  rw [fq_wordAt_e, if_neg (by decide), if_neg (by decide), show ((104 : Int32) + 5).toNatClampNeg = 109 from rfl, zW109 h]
  by_cases c5 : (110 : Int32) = ft ((a + 5).toNatClampNeg)
  case neg =>
    rw [if_neg c5, fq_wordAt_e]
    refine Or.inr ⟨?_, fun z => c5 (z.2.2.2.2.2.2).symm⟩
    by_cases q : (6 : Int32) ≤ 5 + 1
    · rw [if_pos q]
    · rw [if_neg q, if_pos rfl]
  rw [if_pos c5, show (5 : Int32) + 1 = 6 from rfl]
  rw [fq_wordAt_e, if_pos (by decide)]
  exact Or.inl ⟨rfl, hb, c0.symm, c1.symm, c2.symm, c3.symm, c4.symm, c5.symm⟩
theorem zc21 {ft fw : Nat → Int32} {a b : Int32} (h : zWd fw) : (zM21 ft a b ∧ fq_wordAt_c ft fw a b 97 21 104 = 21) ∨ (¬ zM21 ft a b ∧ fq_wordAt_c ft fw a b 97 21 104 = fq_wordAt_c ft fw a b 96 22 111) := by
  rw [fq_wordAt_c, if_neg (by decide), xL_eq, zd21 h, show (104 : Int32) + (6 + 1) = 111 from rfl, show (21 : Int32) + 1 = 22 from rfl]
  by_cases c : (6 : Int32) = b - a
  · rw [if_pos c, xL_eq]
    rcases ze21 (ft := ft) h c.symm with ⟨e, q⟩ | ⟨e, q⟩
    · rw [e, if_neg (by decide)]; exact Or.inl ⟨q, rfl⟩
    · rw [e, if_pos rfl]; exact Or.inr ⟨q, rfl⟩
  · rw [if_neg c, xL_eq, show fq_wordAt_e ft fw a 104 6 118 0 0 = (0, 0) from by rw [fq_wordAt_e, if_neg (by decide), if_pos rfl], if_pos rfl]
    exact Or.inr ⟨fun q => c q.1.symm, rfl⟩
theorem zk21 {ft : Nat → Int32} {a b : Int32} (a0 : ¬ a < 0) (a9 : a ≤ 900) (b9 : b ≤ 900) (b0 : ¬ b < a) (h6 : ¬ b ≤ a + 5 → b - a = 6) (hs : ∀ k : Int32, ¬ k < a → k < b → ¬ ft k.toNatClampNeg < 97 ∧ ft k.toNatClampNeg ≤ 122) : zM21 ft a b ↔ fq_packed ft a b = 642829806 := by
  constructor
  · intro hm
    have hb := hm.1
    rw [zpd a0 a9]
    rw [show zE ft a b 0 = 19 from by rw [zE, if_neg (by lia), hm.2.1]; rfl]
    rw [show zE ft a b 1 = 5 from by rw [zE, if_neg (by lia), hm.2.2.1]; rfl]
    rw [show zE ft a b 2 = 1 from by rw [zE, if_neg (by lia), hm.2.2.2.1]; rfl]
    rw [show zE ft a b 3 = 19 from by rw [zE, if_neg (by lia), hm.2.2.2.2.1]; rfl]
    rw [show zE ft a b 4 = 15 from by rw [zE, if_neg (by lia), hm.2.2.2.2.2.1]; rfl]
    rw [show zE ft a b 5 = 14 from by rw [zE, if_neg (by lia), hm.2.2.2.2.2.2]; rfl]
    rfl
  · intro hc
    obtain ⟨E0, E1, E2, E3, E4, E5, l0, l1, l2, l3, l4, l5, g0, g1, g2, g3, g4, g5, hn⟩ := zpn a0 a9 hs
    rw [hc, show ((642829806 : Int32)).toBitVec.toNat = 642829806 from rfl] at hn
    have v0 : zE ft a b 0 = 19 := by
      have z : E0 = 19 := by omega
      rw [z] at g0
      exact zEq g0 (by decide)
    have x0 := zEr hs a0 a9 0 (by decide) (by decide)
    rw [v0] at x0
    have v1 : zE ft a b 1 = 5 := by
      have z : E1 = 5 := by omega
      rw [z] at g1
      exact zEq g1 (by decide)
    have x1 := zEr hs a0 a9 1 (by decide) (by decide)
    rw [v1] at x1
    have v2 : zE ft a b 2 = 1 := by
      have z : E2 = 1 := by omega
      rw [z] at g2
      exact zEq g2 (by decide)
    have x2 := zEr hs a0 a9 2 (by decide) (by decide)
    rw [v2] at x2
    have v3 : zE ft a b 3 = 19 := by
      have z : E3 = 19 := by omega
      rw [z] at g3
      exact zEq g3 (by decide)
    have x3 := zEr hs a0 a9 3 (by decide) (by decide)
    rw [v3] at x3
    have v4 : zE ft a b 4 = 15 := by
      have z : E4 = 15 := by omega
      rw [z] at g4
      exact zEq g4 (by decide)
    have x4 := zEr hs a0 a9 4 (by decide) (by decide)
    rw [v4] at x4
    have v5 : zE ft a b 5 = 14 := by
      have z : E5 = 14 := by omega
      rw [z] at g5
      exact zEq g5 (by decide)
    have x5 := zEr hs a0 a9 5 (by decide) (by decide)
    rw [v5] at x5
    have y0 : ¬ b ≤ a + 0 ∧ ft ((a + 0).toNatClampNeg) = 115 := by
      rcases x0 with q | q
      · exact absurd q.2 (by decide)
      · exact ⟨q.1, by have q2 := q.2.1; lia⟩
    have y1 : ¬ b ≤ a + 1 ∧ ft ((a + 1).toNatClampNeg) = 101 := by
      rcases x1 with q | q
      · exact absurd q.2 (by decide)
      · exact ⟨q.1, by have q2 := q.2.1; lia⟩
    have y2 : ¬ b ≤ a + 2 ∧ ft ((a + 2).toNatClampNeg) = 97 := by
      rcases x2 with q | q
      · exact absurd q.2 (by decide)
      · exact ⟨q.1, by have q2 := q.2.1; lia⟩
    have y3 : ¬ b ≤ a + 3 ∧ ft ((a + 3).toNatClampNeg) = 115 := by
      rcases x3 with q | q
      · exact absurd q.2 (by decide)
      · exact ⟨q.1, by have q2 := q.2.1; lia⟩
    have y4 : ¬ b ≤ a + 4 ∧ ft ((a + 4).toNatClampNeg) = 111 := by
      rcases x4 with q | q
      · exact absurd q.2 (by decide)
      · exact ⟨q.1, by have q2 := q.2.1; lia⟩
    have y5 : ¬ b ≤ a + 5 ∧ ft ((a + 5).toNatClampNeg) = 110 := by
      rcases x5 with q | q
      · exact absurd q.2 (by decide)
      · exact ⟨q.1, by have q2 := q.2.1; lia⟩
    exact ⟨h6 y5.1, y0.2, y1.2, y2.2, y3.2, y4.2, y5.2⟩
def zM22 (ft : Nat → Int32) (a b : Int32) : Prop := b - a = 6 ∧ ft ((a + 0).toNatClampNeg) = 108 ∧ ft ((a + 1).toNatClampNeg) = 101 ∧ ft ((a + 2).toNatClampNeg) = 110 ∧ ft ((a + 3).toNatClampNeg) = 103 ∧ ft ((a + 4).toNatClampNeg) = 116 ∧ ft ((a + 5).toNatClampNeg) = 104
theorem zd22 {fw : Nat → Int32} (h : zWd fw) : fq_wordAt_d fw 111 118 0 = 6 := by
  rw [fq_wordAt_d, show ((111 : Int32) + 0).toNatClampNeg = 111 from rfl, zW111 h, if_neg (by decide), show (0 : Int32) + 1 = 1 from rfl]
  rw [fq_wordAt_d, show ((111 : Int32) + 1).toNatClampNeg = 112 from rfl, zW112 h, if_neg (by decide), show (1 : Int32) + 1 = 2 from rfl]
  rw [fq_wordAt_d, show ((111 : Int32) + 2).toNatClampNeg = 113 from rfl, zW113 h, if_neg (by decide), show (2 : Int32) + 1 = 3 from rfl]
  rw [fq_wordAt_d, show ((111 : Int32) + 3).toNatClampNeg = 114 from rfl, zW114 h, if_neg (by decide), show (3 : Int32) + 1 = 4 from rfl]
  rw [fq_wordAt_d, show ((111 : Int32) + 4).toNatClampNeg = 115 from rfl, zW115 h, if_neg (by decide), show (4 : Int32) + 1 = 5 from rfl]
  rw [fq_wordAt_d, show ((111 : Int32) + 5).toNatClampNeg = 116 from rfl, zW116 h, if_neg (by decide), show (5 : Int32) + 1 = 6 from rfl]
  rw [fq_wordAt_d, show ((111 : Int32) + 6).toNatClampNeg = 117 from rfl, zW117 h, if_pos rfl]
theorem ze22 {ft fw : Nat → Int32} {a b : Int32} (h : zWd fw) (hb : b - a = 6) : ((fq_wordAt_e ft fw a 111 6 118 1 0).1 = 1 ∧ zM22 ft a b) ∨ ((fq_wordAt_e ft fw a 111 6 118 1 0).1 = 0 ∧ ¬ zM22 ft a b) := by
  rw [fq_wordAt_e, if_neg (by decide), if_neg (by decide), show ((111 : Int32) + 0).toNatClampNeg = 111 from rfl, zW111 h]
  by_cases c0 : (108 : Int32) = ft ((a + 0).toNatClampNeg)
  case neg =>
    rw [if_neg c0, fq_wordAt_e]
    refine Or.inr ⟨?_, fun z => c0 (z.2.1).symm⟩
    by_cases q : (6 : Int32) ≤ 0 + 1
    · rw [if_pos q]
    · rw [if_neg q, if_pos rfl]
  rw [if_pos c0, show (0 : Int32) + 1 = 1 from rfl]
  rw [fq_wordAt_e, if_neg (by decide), if_neg (by decide), show ((111 : Int32) + 1).toNatClampNeg = 112 from rfl, zW112 h]
  by_cases c1 : (101 : Int32) = ft ((a + 1).toNatClampNeg)
  case neg =>
    rw [if_neg c1, fq_wordAt_e]
    refine Or.inr ⟨?_, fun z => c1 (z.2.2.1).symm⟩
    by_cases q : (6 : Int32) ≤ 1 + 1
    · rw [if_pos q]
    · rw [if_neg q, if_pos rfl]
  rw [if_pos c1, show (1 : Int32) + 1 = 2 from rfl]
  rw [fq_wordAt_e, if_neg (by decide), if_neg (by decide), show ((111 : Int32) + 2).toNatClampNeg = 113 from rfl, zW113 h]
  by_cases c2 : (110 : Int32) = ft ((a + 2).toNatClampNeg)
  case neg =>
    rw [if_neg c2, fq_wordAt_e]
    refine Or.inr ⟨?_, fun z => c2 (z.2.2.2.1).symm⟩
    by_cases q : (6 : Int32) ≤ 2 + 1
    · rw [if_pos q]
    · rw [if_neg q, if_pos rfl]
  rw [if_pos c2, show (2 : Int32) + 1 = 3 from rfl]
  rw [fq_wordAt_e, if_neg (by decide), if_neg (by decide), show ((111 : Int32) + 3).toNatClampNeg = 114 from rfl, zW114 h]
  by_cases c3 : (103 : Int32) = ft ((a + 3).toNatClampNeg)
  case neg =>
    rw [if_neg c3, fq_wordAt_e]
    refine Or.inr ⟨?_, fun z => c3 (z.2.2.2.2.1).symm⟩
    by_cases q : (6 : Int32) ≤ 3 + 1
    · rw [if_pos q]
    · rw [if_neg q, if_pos rfl]
  rw [if_pos c3, show (3 : Int32) + 1 = 4 from rfl]
  rw [fq_wordAt_e, if_neg (by decide), if_neg (by decide), show ((111 : Int32) + 4).toNatClampNeg = 115 from rfl, zW115 h]
  by_cases c4 : (116 : Int32) = ft ((a + 4).toNatClampNeg)
  case neg =>
    rw [if_neg c4, fq_wordAt_e]
    refine Or.inr ⟨?_, fun z => c4 (z.2.2.2.2.2.1).symm⟩
    by_cases q : (6 : Int32) ≤ 4 + 1
    · rw [if_pos q]
    · rw [if_neg q, if_pos rfl]
  rw [if_pos c4, show (4 : Int32) + 1 = 5 from rfl]
  rw [fq_wordAt_e, if_neg (by decide), if_neg (by decide), show ((111 : Int32) + 5).toNatClampNeg = 116 from rfl, zW116 h]
  by_cases c5 : (104 : Int32) = ft ((a + 5).toNatClampNeg)
  case neg =>
    rw [if_neg c5, fq_wordAt_e]
    refine Or.inr ⟨?_, fun z => c5 (z.2.2.2.2.2.2).symm⟩
    by_cases q : (6 : Int32) ≤ 5 + 1
    · rw [if_pos q]
    · rw [if_neg q, if_pos rfl]
  rw [if_pos c5, show (5 : Int32) + 1 = 6 from rfl]
  rw [fq_wordAt_e, if_pos (by decide)]
  exact Or.inl ⟨rfl, hb, c0.symm, c1.symm, c2.symm, c3.symm, c4.symm, c5.symm⟩
theorem zc22 {ft fw : Nat → Int32} {a b : Int32} (h : zWd fw) : (zM22 ft a b ∧ fq_wordAt_c ft fw a b 96 22 111 = 22) ∨ (¬ zM22 ft a b ∧ fq_wordAt_c ft fw a b 96 22 111 = fq_wordAt_c ft fw a b 95 23 118) := by
  rw [fq_wordAt_c, if_neg (by decide), xL_eq, zd22 h, show (111 : Int32) + (6 + 1) = 118 from rfl, show (22 : Int32) + 1 = 23 from rfl]
  by_cases c : (6 : Int32) = b - a
  · rw [if_pos c, xL_eq]
    rcases ze22 (ft := ft) h c.symm with ⟨e, q⟩ | ⟨e, q⟩
    · rw [e, if_neg (by decide)]; exact Or.inl ⟨q, rfl⟩
    · rw [e, if_pos rfl]; exact Or.inr ⟨q, rfl⟩
  · rw [if_neg c, xL_eq, show fq_wordAt_e ft fw a 111 6 118 0 0 = (0, 0) from by rw [fq_wordAt_e, if_neg (by decide), if_pos rfl], if_pos rfl]
    exact Or.inr ⟨fun q => c q.1.symm, rfl⟩
theorem zk22 {ft : Nat → Int32} {a b : Int32} (a0 : ¬ a < 0) (a9 : a ≤ 900) (b9 : b ≤ 900) (b0 : ¬ b < a) (h6 : ¬ b ≤ a + 5 → b - a = 6) (hs : ∀ k : Int32, ¬ k < a → k < b → ¬ ft k.toNatClampNeg < 97 ∧ ft k.toNatClampNeg ≤ 122) : zM22 ft a b ↔ fq_packed ft a b = 408362632 := by
  constructor
  · intro hm
    have hb := hm.1
    rw [zpd a0 a9]
    rw [show zE ft a b 0 = 12 from by rw [zE, if_neg (by lia), hm.2.1]; rfl]
    rw [show zE ft a b 1 = 5 from by rw [zE, if_neg (by lia), hm.2.2.1]; rfl]
    rw [show zE ft a b 2 = 14 from by rw [zE, if_neg (by lia), hm.2.2.2.1]; rfl]
    rw [show zE ft a b 3 = 7 from by rw [zE, if_neg (by lia), hm.2.2.2.2.1]; rfl]
    rw [show zE ft a b 4 = 20 from by rw [zE, if_neg (by lia), hm.2.2.2.2.2.1]; rfl]
    rw [show zE ft a b 5 = 8 from by rw [zE, if_neg (by lia), hm.2.2.2.2.2.2]; rfl]
    rfl
  · intro hc
    obtain ⟨E0, E1, E2, E3, E4, E5, l0, l1, l2, l3, l4, l5, g0, g1, g2, g3, g4, g5, hn⟩ := zpn a0 a9 hs
    rw [hc, show ((408362632 : Int32)).toBitVec.toNat = 408362632 from rfl] at hn
    have v0 : zE ft a b 0 = 12 := by
      have z : E0 = 12 := by omega
      rw [z] at g0
      exact zEq g0 (by decide)
    have x0 := zEr hs a0 a9 0 (by decide) (by decide)
    rw [v0] at x0
    have v1 : zE ft a b 1 = 5 := by
      have z : E1 = 5 := by omega
      rw [z] at g1
      exact zEq g1 (by decide)
    have x1 := zEr hs a0 a9 1 (by decide) (by decide)
    rw [v1] at x1
    have v2 : zE ft a b 2 = 14 := by
      have z : E2 = 14 := by omega
      rw [z] at g2
      exact zEq g2 (by decide)
    have x2 := zEr hs a0 a9 2 (by decide) (by decide)
    rw [v2] at x2
    have v3 : zE ft a b 3 = 7 := by
      have z : E3 = 7 := by omega
      rw [z] at g3
      exact zEq g3 (by decide)
    have x3 := zEr hs a0 a9 3 (by decide) (by decide)
    rw [v3] at x3
    have v4 : zE ft a b 4 = 20 := by
      have z : E4 = 20 := by omega
      rw [z] at g4
      exact zEq g4 (by decide)
    have x4 := zEr hs a0 a9 4 (by decide) (by decide)
    rw [v4] at x4
    have v5 : zE ft a b 5 = 8 := by
      have z : E5 = 8 := by omega
      rw [z] at g5
      exact zEq g5 (by decide)
    have x5 := zEr hs a0 a9 5 (by decide) (by decide)
    rw [v5] at x5
    have y0 : ¬ b ≤ a + 0 ∧ ft ((a + 0).toNatClampNeg) = 108 := by
      rcases x0 with q | q
      · exact absurd q.2 (by decide)
      · exact ⟨q.1, by have q2 := q.2.1; lia⟩
    have y1 : ¬ b ≤ a + 1 ∧ ft ((a + 1).toNatClampNeg) = 101 := by
      rcases x1 with q | q
      · exact absurd q.2 (by decide)
      · exact ⟨q.1, by have q2 := q.2.1; lia⟩
    have y2 : ¬ b ≤ a + 2 ∧ ft ((a + 2).toNatClampNeg) = 110 := by
      rcases x2 with q | q
      · exact absurd q.2 (by decide)
      · exact ⟨q.1, by have q2 := q.2.1; lia⟩
    have y3 : ¬ b ≤ a + 3 ∧ ft ((a + 3).toNatClampNeg) = 103 := by
      rcases x3 with q | q
      · exact absurd q.2 (by decide)
      · exact ⟨q.1, by have q2 := q.2.1; lia⟩
    have y4 : ¬ b ≤ a + 4 ∧ ft ((a + 4).toNatClampNeg) = 116 := by
      rcases x4 with q | q
      · exact absurd q.2 (by decide)
      · exact ⟨q.1, by have q2 := q.2.1; lia⟩
    have y5 : ¬ b ≤ a + 5 ∧ ft ((a + 5).toNatClampNeg) = 104 := by
      rcases x5 with q | q
      · exact absurd q.2 (by decide)
      · exact ⟨q.1, by have q2 := q.2.1; lia⟩
    exact ⟨h6 y5.1, y0.2, y1.2, y2.2, y3.2, y4.2, y5.2⟩
def zt (S : Int32) : Int32 := (if (408362632 : Int32) = S then (22 : Int32) else (if (486146048 : Int32) = S then (21 : Int32) else (if (48365568 : Int32) = S then (20 : Int32) else (if (522190848 : Int32) = S then (19 : Int32) else (if (40506944 : Int32) = S then (18 : Int32) else (if (46454944 : Int32) = S then (17 : Int32) else (if (642829806 : Int32) = S then (16 : Int32) else (if (136085504 : Int32) = S then (15 : Int32) else (if (844154880 : Int32) = S then (14 : Int32) else (if (486151168 : Int32) = S then (13 : Int32) else (if (538738688 : Int32) = S then (12 : Int32) else (if (680931328 : Int32) = S then (11 : Int32) else (if (136104960 : Int32) = S then (10 : Int32) else (if (844155488 : Int32) = S then (9 : Int32) else (if (139628544 : Int32) = S then (8 : Int32) else (if (143822848 : Int32) = S then (7 : Int32) else (if (542723566 : Int32) = S then (6 : Int32) else (if (206622336 : Int32) = S then (5 : Int32) else (if (660013056 : Int32) = S then (4 : Int32) else (if (452442112 : Int32) = S then (3 : Int32) else (if (777169920 : Int32) = S then (2 : Int32) else (if (220705792 : Int32) = S then (1 : Int32) else (if (404164608 : Int32) = S then (0 : Int32) else 23)))))))))))))))))))))))
def zCo (fCo : Nat → Int32) : Prop := fCo 0 = 404164608 ∧ fCo 1 = 220705792 ∧ fCo 2 = 777169920 ∧ fCo 3 = 452442112 ∧ fCo 4 = 660013056 ∧ fCo 5 = 206622336 ∧ fCo 6 = 542723566 ∧ fCo 7 = 143822848 ∧ fCo 8 = 139628544 ∧ fCo 9 = 844155488 ∧ fCo 10 = 136104960 ∧ fCo 11 = 680931328 ∧ fCo 12 = 538738688 ∧ fCo 13 = 486151168 ∧ fCo 14 = 844154880 ∧ fCo 15 = 136085504 ∧ fCo 16 = 642829806 ∧ fCo 17 = 46454944 ∧ fCo 18 = 40506944 ∧ fCo 19 = 522190848 ∧ fCo 20 = 48365568 ∧ fCo 21 = 486146048 ∧ fCo 22 = 408362632
theorem zds {p L a : Int32} {fCo : Nat → Int32} {n i : Nat} {I t C : Int32} (hi : ¬ 23 ≤ I) (hI : I.toNatClampNeg = i) (hc : fCo i = C) {J : Int32} (hJ : I + 1 = J) :
    fe_readWord_d p fCo L a (n + 1) I t = fe_readWord_d p fCo L a n J (if C = (L <<< ((5 * (6 - (a - p))) &&& 31)) then I else t) := by
  rw [fe_readWord_d, if_neg hi, hI, hc, hJ]
  by_cases c : C = (L <<< ((5 * (6 - (a - p))) &&& 31))
  · rw [if_pos c, if_pos c]
  · rw [if_neg c, if_neg c]
theorem zdt {p L a : Int32} {fCo : Nat → Int32} (h : zCo fCo) : fe_readWord_d p fCo L a 23 0 23 = (zt (L <<< ((5 * (6 - (a - p))) &&& 31)), a, (L <<< ((5 * (6 - (a - p))) &&& 31))) := by
  rw [zds (n := 22) (i := 0) (by decide) rfl (h.1) (J := 1) rfl]
  rw [zds (n := 21) (i := 1) (by decide) rfl (h.2.1) (J := 2) rfl]
  rw [zds (n := 20) (i := 2) (by decide) rfl (h.2.2.1) (J := 3) rfl]
  rw [zds (n := 19) (i := 3) (by decide) rfl (h.2.2.2.1) (J := 4) rfl]
  rw [zds (n := 18) (i := 4) (by decide) rfl (h.2.2.2.2.1) (J := 5) rfl]
  rw [zds (n := 17) (i := 5) (by decide) rfl (h.2.2.2.2.2.1) (J := 6) rfl]
  rw [zds (n := 16) (i := 6) (by decide) rfl (h.2.2.2.2.2.2.1) (J := 7) rfl]
  rw [zds (n := 15) (i := 7) (by decide) rfl (h.2.2.2.2.2.2.2.1) (J := 8) rfl]
  rw [zds (n := 14) (i := 8) (by decide) rfl (h.2.2.2.2.2.2.2.2.1) (J := 9) rfl]
  rw [zds (n := 13) (i := 9) (by decide) rfl (h.2.2.2.2.2.2.2.2.2.1) (J := 10) rfl]
  rw [zds (n := 12) (i := 10) (by decide) rfl (h.2.2.2.2.2.2.2.2.2.2.1) (J := 11) rfl]
  rw [zds (n := 11) (i := 11) (by decide) rfl (h.2.2.2.2.2.2.2.2.2.2.2.1) (J := 12) rfl]
  rw [zds (n := 10) (i := 12) (by decide) rfl (h.2.2.2.2.2.2.2.2.2.2.2.2.1) (J := 13) rfl]
  rw [zds (n := 9) (i := 13) (by decide) rfl (h.2.2.2.2.2.2.2.2.2.2.2.2.2.1) (J := 14) rfl]
  rw [zds (n := 8) (i := 14) (by decide) rfl (h.2.2.2.2.2.2.2.2.2.2.2.2.2.2.1) (J := 15) rfl]
  rw [zds (n := 7) (i := 15) (by decide) rfl (h.2.2.2.2.2.2.2.2.2.2.2.2.2.2.2.1) (J := 16) rfl]
  rw [zds (n := 6) (i := 16) (by decide) rfl (h.2.2.2.2.2.2.2.2.2.2.2.2.2.2.2.2.1) (J := 17) rfl]
  rw [zds (n := 5) (i := 17) (by decide) rfl (h.2.2.2.2.2.2.2.2.2.2.2.2.2.2.2.2.2.1) (J := 18) rfl]
  rw [zds (n := 4) (i := 18) (by decide) rfl (h.2.2.2.2.2.2.2.2.2.2.2.2.2.2.2.2.2.2.1) (J := 19) rfl]
  rw [zds (n := 3) (i := 19) (by decide) rfl (h.2.2.2.2.2.2.2.2.2.2.2.2.2.2.2.2.2.2.2.1) (J := 20) rfl]
  rw [zds (n := 2) (i := 20) (by decide) rfl (h.2.2.2.2.2.2.2.2.2.2.2.2.2.2.2.2.2.2.2.2.1) (J := 21) rfl]
  rw [zds (n := 1) (i := 21) (by decide) rfl (h.2.2.2.2.2.2.2.2.2.2.2.2.2.2.2.2.2.2.2.2.2.1) (J := 22) rfl]
  rw [zds (n := 0) (i := 22) (by decide) rfl (h.2.2.2.2.2.2.2.2.2.2.2.2.2.2.2.2.2.2.2.2.2.2) (J := 23) rfl]
  rw [fe_readWord_d, zt]
def zkey (k : Int32) : Int32 := (if k = 0 then (0 : Int32) else (if k = 1 then (5 : Int32) else (if k = 2 then (6 : Int32) else (if k = 3 then (8 : Int32) else (if k = 4 then (13 : Int32) else (if k = 5 then (4 : Int32) else (if k = 6 then (2 : Int32) else (if k = 7 then (3 : Int32) else (if k = 8 then (1 : Int32) else (if k = 9 then (7 : Int32) else (if k = 10 then (9 : Int32) else (if k = 11 then (10 : Int32) else (if k = 12 then (11 : Int32) else (if k = 13 then (12 : Int32) else (if k = 14 then (17 : Int32) else (if k = 15 then (18 : Int32) else (if k = 16 then (20 : Int32) else (if k = 17 then (19 : Int32) else (if k = 18 then (21 : Int32) else (if k = 19 then (15 : Int32) else (if k = 20 then (14 : Int32) else (if k = 21 then (16 : Int32) else (if k = 22 then (22 : Int32) else 39)))))))))))))))))))))))
theorem zwa {ft fw : Nat → Int32} {a b : Int32} (h : zWd fw) (a0 : ¬ a < 0) (a9 : a ≤ 900) (b9 : b ≤ 900) (b0 : ¬ b < a) (h6 : b - a ≤ 6) (hs : ∀ k : Int32, ¬ k < a → k < b → ¬ ft k.toNatClampNeg < 97 ∧ ft k.toNatClampNeg ≤ 122) :
    (¬ fq_wordAt ft fw a b < 0 ∧ fq_wordAt ft fw a b ≤ 22 ∧ zt (fq_packed ft a b) = zkey (fq_wordAt ft fw a b)) ∨ (fq_wordAt ft fw a b = -1 ∧ zt (fq_packed ft a b) = 23) := by
  rw [fq_wordAt]
  rcases zc0 (ft := ft) (a := a) (b := b) h with ⟨q, e⟩ | ⟨q0, e⟩
  · rw [e, (zk0 a0 a9 b9 b0 hs).mp q]; exact Or.inl ⟨by decide, by decide, by decide⟩
  rw [e]
  rw [zk0 a0 a9 b9 b0 hs] at q0
  rcases zc1 (ft := ft) (a := a) (b := b) h with ⟨q, e⟩ | ⟨q1, e⟩
  · rw [e, (zk1 a0 a9 b9 b0 hs).mp q]; exact Or.inl ⟨by decide, by decide, by decide⟩
  rw [e]
  rw [zk1 a0 a9 b9 b0 hs] at q1
  rcases zc2 (ft := ft) (a := a) (b := b) h with ⟨q, e⟩ | ⟨q2, e⟩
  · rw [e, (zk2 a0 a9 b9 b0 (fun z => by lia) hs).mp q]; exact Or.inl ⟨by decide, by decide, by decide⟩
  rw [e]
  rw [zk2 a0 a9 b9 b0 (fun z => by lia) hs] at q2
  rcases zc3 (ft := ft) (a := a) (b := b) h with ⟨q, e⟩ | ⟨q3, e⟩
  · rw [e, (zk3 a0 a9 b9 b0 hs).mp q]; exact Or.inl ⟨by decide, by decide, by decide⟩
  rw [e]
  rw [zk3 a0 a9 b9 b0 hs] at q3
  rcases zc4 (ft := ft) (a := a) (b := b) h with ⟨q, e⟩ | ⟨q4, e⟩
  · rw [e, (zk4 a0 a9 b9 b0 hs).mp q]; exact Or.inl ⟨by decide, by decide, by decide⟩
  rw [e]
  rw [zk4 a0 a9 b9 b0 hs] at q4
  rcases zc5 (ft := ft) (a := a) (b := b) h with ⟨q, e⟩ | ⟨q5, e⟩
  · rw [e, (zk5 a0 a9 b9 b0 hs).mp q]; exact Or.inl ⟨by decide, by decide, by decide⟩
  rw [e]
  rw [zk5 a0 a9 b9 b0 hs] at q5
  rcases zc6 (ft := ft) (a := a) (b := b) h with ⟨q, e⟩ | ⟨q6, e⟩
  · rw [e, (zk6 a0 a9 b9 b0 hs).mp q]; exact Or.inl ⟨by decide, by decide, by decide⟩
  rw [e]
  rw [zk6 a0 a9 b9 b0 hs] at q6
  rcases zc7 (ft := ft) (a := a) (b := b) h with ⟨q, e⟩ | ⟨q7, e⟩
  · rw [e, (zk7 a0 a9 b9 b0 hs).mp q]; exact Or.inl ⟨by decide, by decide, by decide⟩
  rw [e]
  rw [zk7 a0 a9 b9 b0 hs] at q7
  rcases zc8 (ft := ft) (a := a) (b := b) h with ⟨q, e⟩ | ⟨q8, e⟩
  · rw [e, (zk8 a0 a9 b9 b0 hs).mp q]; exact Or.inl ⟨by decide, by decide, by decide⟩
  rw [e]
  rw [zk8 a0 a9 b9 b0 hs] at q8
  rcases zc9 (ft := ft) (a := a) (b := b) h with ⟨q, e⟩ | ⟨q9, e⟩
  · rw [e, (zk9 a0 a9 b9 b0 hs).mp q]; exact Or.inl ⟨by decide, by decide, by decide⟩
  rw [e]
  rw [zk9 a0 a9 b9 b0 hs] at q9
  rcases zc10 (ft := ft) (a := a) (b := b) h with ⟨q, e⟩ | ⟨q10, e⟩
  · rw [e, (zk10 a0 a9 b9 b0 hs).mp q]; exact Or.inl ⟨by decide, by decide, by decide⟩
  rw [e]
  rw [zk10 a0 a9 b9 b0 hs] at q10
  rcases zc11 (ft := ft) (a := a) (b := b) h with ⟨q, e⟩ | ⟨q11, e⟩
  · rw [e, (zk11 a0 a9 b9 b0 hs).mp q]; exact Or.inl ⟨by decide, by decide, by decide⟩
  rw [e]
  rw [zk11 a0 a9 b9 b0 hs] at q11
  rcases zc12 (ft := ft) (a := a) (b := b) h with ⟨q, e⟩ | ⟨q12, e⟩
  · rw [e, (zk12 a0 a9 b9 b0 hs).mp q]; exact Or.inl ⟨by decide, by decide, by decide⟩
  rw [e]
  rw [zk12 a0 a9 b9 b0 hs] at q12
  rcases zc13 (ft := ft) (a := a) (b := b) h with ⟨q, e⟩ | ⟨q13, e⟩
  · rw [e, (zk13 a0 a9 b9 b0 hs).mp q]; exact Or.inl ⟨by decide, by decide, by decide⟩
  rw [e]
  rw [zk13 a0 a9 b9 b0 hs] at q13
  rcases zc14 (ft := ft) (a := a) (b := b) h with ⟨q, e⟩ | ⟨q14, e⟩
  · rw [e, (zk14 a0 a9 b9 b0 hs).mp q]; exact Or.inl ⟨by decide, by decide, by decide⟩
  rw [e]
  rw [zk14 a0 a9 b9 b0 hs] at q14
  rcases zc15 (ft := ft) (a := a) (b := b) h with ⟨q, e⟩ | ⟨q15, e⟩
  · rw [e, (zk15 a0 a9 b9 b0 hs).mp q]; exact Or.inl ⟨by decide, by decide, by decide⟩
  rw [e]
  rw [zk15 a0 a9 b9 b0 hs] at q15
  rcases zc16 (ft := ft) (a := a) (b := b) h with ⟨q, e⟩ | ⟨q16, e⟩
  · rw [e, (zk16 a0 a9 b9 b0 hs).mp q]; exact Or.inl ⟨by decide, by decide, by decide⟩
  rw [e]
  rw [zk16 a0 a9 b9 b0 hs] at q16
  rcases zc17 (ft := ft) (a := a) (b := b) h with ⟨q, e⟩ | ⟨q17, e⟩
  · rw [e, (zk17 a0 a9 b9 b0 hs).mp q]; exact Or.inl ⟨by decide, by decide, by decide⟩
  rw [e]
  rw [zk17 a0 a9 b9 b0 hs] at q17
  rcases zc18 (ft := ft) (a := a) (b := b) h with ⟨q, e⟩ | ⟨q18, e⟩
  · rw [e, (zk18 a0 a9 b9 b0 hs).mp q]; exact Or.inl ⟨by decide, by decide, by decide⟩
  rw [e]
  rw [zk18 a0 a9 b9 b0 hs] at q18
  rcases zc19 (ft := ft) (a := a) (b := b) h with ⟨q, e⟩ | ⟨q19, e⟩
  · rw [e, (zk19 a0 a9 b9 b0 hs).mp q]; exact Or.inl ⟨by decide, by decide, by decide⟩
  rw [e]
  rw [zk19 a0 a9 b9 b0 hs] at q19
  rcases zc20 (ft := ft) (a := a) (b := b) h with ⟨q, e⟩ | ⟨q20, e⟩
  · rw [e, (zk20 a0 a9 b9 b0 hs).mp q]; exact Or.inl ⟨by decide, by decide, by decide⟩
  rw [e]
  rw [zk20 a0 a9 b9 b0 hs] at q20
  rcases zc21 (ft := ft) (a := a) (b := b) h with ⟨q, e⟩ | ⟨q21, e⟩
  · rw [e, (zk21 a0 a9 b9 b0 (fun z => by lia) hs).mp q]; exact Or.inl ⟨by decide, by decide, by decide⟩
  rw [e]
  rw [zk21 a0 a9 b9 b0 (fun z => by lia) hs] at q21
  rcases zc22 (ft := ft) (a := a) (b := b) h with ⟨q, e⟩ | ⟨q22, e⟩
  · rw [e, (zk22 a0 a9 b9 b0 (fun z => by lia) hs).mp q]; exact Or.inl ⟨by decide, by decide, by decide⟩
  rw [e]
  rw [zk22 a0 a9 b9 b0 (fun z => by lia) hs] at q22
  rw [fq_wordAt_c, if_pos (by decide)]
  refine Or.inr ⟨rfl, ?_⟩
  rw [zt]
  rw [if_neg (fun z => q22 z.symm)]
  rw [if_neg (fun z => q18 z.symm)]
  rw [if_neg (fun z => q16 z.symm)]
  rw [if_neg (fun z => q17 z.symm)]
  rw [if_neg (fun z => q15 z.symm)]
  rw [if_neg (fun z => q14 z.symm)]
  rw [if_neg (fun z => q21 z.symm)]
  rw [if_neg (fun z => q19 z.symm)]
  rw [if_neg (fun z => q20 z.symm)]
  rw [if_neg (fun z => q4 z.symm)]
  rw [if_neg (fun z => q13 z.symm)]
  rw [if_neg (fun z => q12 z.symm)]
  rw [if_neg (fun z => q11 z.symm)]
  rw [if_neg (fun z => q10 z.symm)]
  rw [if_neg (fun z => q3 z.symm)]
  rw [if_neg (fun z => q9 z.symm)]
  rw [if_neg (fun z => q2 z.symm)]
  rw [if_neg (fun z => q1 z.symm)]
  rw [if_neg (fun z => q5 z.symm)]
  rw [if_neg (fun z => q7 z.symm)]
  rw [if_neg (fun z => q6 z.symm)]
  rw [if_neg (fun z => q8 z.symm)]
  rw [if_neg (fun z => q0 z.symm)]
theorem zwl {ft fw : Nat → Int32} {a b : Int32} (h : zWd fw) (h6 : ¬ b - a ≤ 6) : fq_wordAt ft fw a b = -1 := by
  rw [fq_wordAt]
  rcases zc0 (ft := ft) (a := a) (b := b) h with ⟨q, e⟩ | ⟨q, e⟩
  · exact absurd q.1 (fun z => h6 (by rw [z]; decide))
  rw [e]
  rcases zc1 (ft := ft) (a := a) (b := b) h with ⟨q, e⟩ | ⟨q, e⟩
  · exact absurd q.1 (fun z => h6 (by rw [z]; decide))
  rw [e]
  rcases zc2 (ft := ft) (a := a) (b := b) h with ⟨q, e⟩ | ⟨q, e⟩
  · exact absurd q.1 (fun z => h6 (by rw [z]; decide))
  rw [e]
  rcases zc3 (ft := ft) (a := a) (b := b) h with ⟨q, e⟩ | ⟨q, e⟩
  · exact absurd q.1 (fun z => h6 (by rw [z]; decide))
  rw [e]
  rcases zc4 (ft := ft) (a := a) (b := b) h with ⟨q, e⟩ | ⟨q, e⟩
  · exact absurd q.1 (fun z => h6 (by rw [z]; decide))
  rw [e]
  rcases zc5 (ft := ft) (a := a) (b := b) h with ⟨q, e⟩ | ⟨q, e⟩
  · exact absurd q.1 (fun z => h6 (by rw [z]; decide))
  rw [e]
  rcases zc6 (ft := ft) (a := a) (b := b) h with ⟨q, e⟩ | ⟨q, e⟩
  · exact absurd q.1 (fun z => h6 (by rw [z]; decide))
  rw [e]
  rcases zc7 (ft := ft) (a := a) (b := b) h with ⟨q, e⟩ | ⟨q, e⟩
  · exact absurd q.1 (fun z => h6 (by rw [z]; decide))
  rw [e]
  rcases zc8 (ft := ft) (a := a) (b := b) h with ⟨q, e⟩ | ⟨q, e⟩
  · exact absurd q.1 (fun z => h6 (by rw [z]; decide))
  rw [e]
  rcases zc9 (ft := ft) (a := a) (b := b) h with ⟨q, e⟩ | ⟨q, e⟩
  · exact absurd q.1 (fun z => h6 (by rw [z]; decide))
  rw [e]
  rcases zc10 (ft := ft) (a := a) (b := b) h with ⟨q, e⟩ | ⟨q, e⟩
  · exact absurd q.1 (fun z => h6 (by rw [z]; decide))
  rw [e]
  rcases zc11 (ft := ft) (a := a) (b := b) h with ⟨q, e⟩ | ⟨q, e⟩
  · exact absurd q.1 (fun z => h6 (by rw [z]; decide))
  rw [e]
  rcases zc12 (ft := ft) (a := a) (b := b) h with ⟨q, e⟩ | ⟨q, e⟩
  · exact absurd q.1 (fun z => h6 (by rw [z]; decide))
  rw [e]
  rcases zc13 (ft := ft) (a := a) (b := b) h with ⟨q, e⟩ | ⟨q, e⟩
  · exact absurd q.1 (fun z => h6 (by rw [z]; decide))
  rw [e]
  rcases zc14 (ft := ft) (a := a) (b := b) h with ⟨q, e⟩ | ⟨q, e⟩
  · exact absurd q.1 (fun z => h6 (by rw [z]; decide))
  rw [e]
  rcases zc15 (ft := ft) (a := a) (b := b) h with ⟨q, e⟩ | ⟨q, e⟩
  · exact absurd q.1 (fun z => h6 (by rw [z]; decide))
  rw [e]
  rcases zc16 (ft := ft) (a := a) (b := b) h with ⟨q, e⟩ | ⟨q, e⟩
  · exact absurd q.1 (fun z => h6 (by rw [z]; decide))
  rw [e]
  rcases zc17 (ft := ft) (a := a) (b := b) h with ⟨q, e⟩ | ⟨q, e⟩
  · exact absurd q.1 (fun z => h6 (by rw [z]; decide))
  rw [e]
  rcases zc18 (ft := ft) (a := a) (b := b) h with ⟨q, e⟩ | ⟨q, e⟩
  · exact absurd q.1 (fun z => h6 (by rw [z]; decide))
  rw [e]
  rcases zc19 (ft := ft) (a := a) (b := b) h with ⟨q, e⟩ | ⟨q, e⟩
  · exact absurd q.1 (fun z => h6 (by rw [z]; decide))
  rw [e]
  rcases zc20 (ft := ft) (a := a) (b := b) h with ⟨q, e⟩ | ⟨q, e⟩
  · exact absurd q.1 (fun z => h6 (by rw [z]; decide))
  rw [e]
  rcases zc21 (ft := ft) (a := a) (b := b) h with ⟨q, e⟩ | ⟨q, e⟩
  · exact absurd q.1 (fun z => h6 (by rw [z]; decide))
  rw [e]
  rcases zc22 (ft := ft) (a := a) (b := b) h with ⟨q, e⟩ | ⟨q, e⟩
  · exact absurd q.1 (fun z => h6 (by rw [z]; decide))
  rw [e]
  rw [fq_wordAt_c, if_pos (by decide)]
