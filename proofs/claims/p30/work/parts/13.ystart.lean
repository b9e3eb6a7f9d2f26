def yXH : List yCell := [.inl (9, [.inr (some 1), .inr (some 75), .inr (some 149), .inr (some 155), .inr (some 183), .inl 0]), .inl (8, [.inr (some 2), .inr (some 3), .inr (some 4), .inr (some 5), .inr (some 6), .inl 0, .inl 0, .inl 0, .inl 0]), .inr (2, 24, [(23, .inr 30), (22, .inr 29), (21, .inr 28), (20, .inr 27), (19, .inr 26), (18, .inr 25), (17, .inr 24), (16, .inr 23), (15, .inr 22), (14, .inr 21), (13, .inr 20), (12, .inr 19), (11, .inr 18), (10, .inr 17), (9, .inr 16), (8, .inr 15), (7, .inr 14), (6, .inr 13), (5, .inr 12), (4, .inr 11), (3, .inr 10), (2, .inr 9), (1, .inr 8), (0, .inr 7)]), .inr (3, 8, [(7, .inr 52), (6, .inr 49), (5, .inr 46), (4, .inr 43), (3, .inr 40), (2, .inr 37), (1, .inr 34), (0, .inr 31)]), .inr (4, 12, [(11, .inr 66), (10, .inr 65), (9, .inr 64), (8, .inr 63), (7, .inr 62), (6, .inr 61), (5, .inr 60), (4, .inr 59), (3, .inr 58), (2, .inr 57), (1, .inr 56), (0, .inr 55)]), .inr (5, 8, [(7, .inr 74), (6, .inr 73), (5, .inr 72), (4, .inr 71), (3, .inr 70), (2, .inr 69), (1, .inr 68), (0, .inr 67)]), .inl (3, [.inl 0, .inl 0, .inl 0, .inl 0, .inl 0, .inl (-4), .inl 255]), .inl (0, [.inl 0, .inl 0, .inl 0, .inl 0, .inl 0, .inl 0]), .inl (0, [.inl 0, .inl 0, .inl 0, .inl 0, .inl 0, .inl 0]), .inl (0, [.inl 0, .inl 0, .inl 0, .inl 0, .inl 0, .inl 0]), .inl (0, [.inl 0, .inl 0, .inl 0, .inl 0, .inl 0, .inl 0]), .inl (0, [.inl 0, .inl 0, .inl 0, .inl 0, .inl 0, .inl 0]), .inl (0, [.inl 0, .inl 0, .inl 0, .inl 0, .inl 0, .inl 0]), .inl (0, [.inl 0, .inl 0, .inl 0, .inl 0, .inl 0, .inl 0]), .inl (0, [.inl 0, .inl 0, .inl 0, .inl 0, .inl 0, .inl 0]), .inl (0, [.inl 0, .inl 0, .inl 0, .inl 0, .inl 0, .inl 0]), .inl (0, [.inl 0, .inl 0, .inl 0, .inl 0, .inl 0, .inl 0]), .inl (0, [.inl 0, .inl 0, .inl 0, .inl 0, .inl 0, .inl 0]), .inl (0, [.inl 0, .inl 0, .inl 0, .inl 0, .inl 0, .inl 0]), .inl (0, [.inl 0, .inl 0, .inl 0, .inl 0, .inl 0, .inl 0]), .inl (0, [.inl 0, .inl 0, .inl 0, .inl 0, .inl 0, .inl 0]), .inl (0, [.inl 0, .inl 0, .inl 0, .inl 0, .inl 0, .inl 0]), .inl (0, [.inl 0, .inl 0, .inl 0, .inl 0, .inl 0, .inl 0]), .inl (0, [.inl 0, .inl 0, .inl 0, .inl 0, .inl 0, .inl 0]), .inl (0, [.inl 0, .inl 0, .inl 0, .inl 0, .inl 0, .inl 0]), .inl (0, [.inl 0, .inl 0, .inl 0, .inl 0, .inl 0, .inl 0]), .inl (0, [.inl 0, .inl 0, .inl 0, .inl 0, .inl 0, .inl 0]), .inl (0, [.inl 0, .inl 0, .inl 0, .inl 0, .inl 0, .inl 0]), .inl (0, [.inl 0, .inl 0, .inl 0, .inl 0, .inl 0, .inl 0]), .inl (0, [.inl 0, .inl 0, .inl 0, .inl 0, .inl 0, .inl 0]), .inl (0, [.inl 0, .inl 0, .inl 0, .inl 0, .inl 0, .inl 0]), .inl (1, [.inl 0, .inl 0, .inl 0, .inl 0, .inl 0, .inl 0, .inl 0, .inl 0, .inr (some 32), .inr (some 33)]), .inr (0, 6, []), .inr (0, 6, []), .inl (1, [.inl 0, .inl 0, .inl 0, .inl 0, .inl 0, .inl 0, .inl 0, .inl 0, .inr (some 35), .inr (some 36)]), .inr (0, 6, []), .inr (0, 6, []), .inl (1, [.inl 0, .inl 0, .inl 0, .inl 0, .inl 0, .inl 0, .inl 0, .inl 0, .inr (some 38), .inr (some 39)]), .inr (0, 6, []), .inr (0, 6, []), .inl (1, [.inl 0, .inl 0, .inl 0, .inl 0, .inl 0, .inl 0, .inl 0, .inl 0, .inr (some 41), .inr (some 42)]), .inr (0, 6, []), .inr (0, 6, []), .inl (1, [.inl 0, .inl 0, .inl 0, .inl 0, .inl 0, .inl 0, .inl 0, .inl 0, .inr (some 44), .inr (some 45)]), .inr (0, 6, []), .inr (0, 6, []), .inl (1, [.inl 0, .inl 0, .inl 0, .inl 0, .inl 0, .inl 0, .inl 0, .inl 0, .inr (some 47), .inr (some 48)]), .inr (0, 6, []), .inr (0, 6, []), .inl (1, [.inl 0, .inl 0, .inl 0, .inl 0, .inl 0, .inl 0, .inl 0, .inl 0, .inr (some 50), .inr (some 51)]), .inr (0, 6, []), .inr (0, 6, []), .inl (1, [.inl 0, .inl 0, .inl 0, .inl 0, .inl 0, .inl 0, .inl 0, .inl 0, .inr (some 53), .inr (some 54)]), .inr (0, 6, []), .inr (0, 6, []), .inl (4, [.inl 0, .inl 0, .inl 0, .inl 0, .inl 0, .inl 0, .inl 0, .inl 0, .inl 0, .inl 0]), .inl (4, [.inl 0, .inl 0, .inl 0, .inl 0, .inl 0, .inl 0, .inl 0, .inl 0, .inl 0, .inl 0]), .inl (4, [.inl 0, .inl 0, .inl 0, .inl 0, .inl 0, .inl 0, .inl 0, .inl 0, .inl 0, .inl 0]), .inl (4, [.inl 0, .inl 0, .inl 0, .inl 0, .inl 0, .inl 0, .inl 0, .inl 0, .inl 0, .inl 0]), .inl (4, [.inl 0, .inl 0, .inl 0, .inl 0, .inl 0, .inl 0, .inl 0, .inl 0, .inl 0, .inl 0]), .inl (4, [.inl 0, .inl 0, .inl 0, .inl 0, .inl 0, .inl 0, .inl 0, .inl 0, .inl 0, .inl 0]), .inl (4, [.inl 0, .inl 0, .inl 0, .inl 0, .inl 0, .inl 0, .inl 0, .inl 0, .inl 0, .inl 0]), .inl (4, [.inl 0, .inl 0, .inl 0, .inl 0, .inl 0, .inl 0, .inl 0, .inl 0, .inl 0, .inl 0]), .inl (4, [.inl 0, .inl 0, .inl 0, .inl 0, .inl 0, .inl 0, .inl 0, .inl 0, .inl 0, .inl 0]), .inl (4, [.inl 0, .inl 0, .inl 0, .inl 0, .inl 0, .inl 0, .inl 0, .inl 0, .inl 0, .inl 0]), .inl (4, [.inl 0, .inl 0, .inl 0, .inl 0, .inl 0, .inl 0, .inl 0, .inl 0, .inl 0, .inl 0]), .inl (4, [.inl 0, .inl 0, .inl 0, .inl 0, .inl 0, .inl 0, .inl 0, .inl 0, .inl 0, .inl 0]), .inl (2, [.inl 0, .inl 0, .inl 0, .inl 0, .inl 0, .inl 0]), .inl (2, [.inl 0, .inl 0, .inl 0, .inl 0, .inl 0, .inl 0]), .inl (2, [.inl 0, .inl 0, .inl 0, .inl 0, .inl 0, .inl 0]), .inl (2, [.inl 0, .inl 0, .inl 0, .inl 0, .inl 0, .inl 0]), .inl (2, [.inl 0, .inl 0, .inl 0, .inl 0, .inl 0, .inl 0]), .inl (2, [.inl 0, .inl 0, .inl 0, .inl 0, .inl 0, .inl 0]), .inl (2, [.inl 0, .inl 0, .inl 0, .inl 0, .inl 0, .inl 0]), .inl (2, [.inl 0, .inl 0, .inl 0, .inl 0, .inl 0, .inl 0]), .inl (8, [.inr (some 76), .inr (some 77), .inr (some 78), .inr (some 79), .inr (some 80), .inl 0, .inl 0, .inl 0, .inl 0]), .inr (2, 24, [(23, .inr 104), (22, .inr 103), (21, .inr 102), (20, .inr 101), (19, .inr 100), (18, .inr 99), (17, .inr 98), (16, .inr 97), (15, .inr 96), (14, .inr 95), (13, .inr 94), (12, .inr 93), (11, .inr 92), (10, .inr 91), (9, .inr 90), (8, .inr 89), (7, .inr 88), (6, .inr 87), (5, .inr 86), (4, .inr 85), (3, .inr 84), (2, .inr 83), (1, .inr 82), (0, .inr 81)]), .inr (3, 8, [(7, .inr 126), (6, .inr 123), (5, .inr 120), (4, .inr 117), (3, .inr 114), (2, .inr 111), (1, .inr 108), (0, .inr 105)]), .inr (4, 12, [(11, .inr 140), (10, .inr 139), (9, .inr 138), (8, .inr 137), (7, .inr 136), (6, .inr 135), (5, .inr 134), (4, .inr 133), (3, .inr 132), (2, .inr 131), (1, .inr 130), (0, .inr 129)]), .inr (5, 8, [(7, .inr 148), (6, .inr 147), (5, .inr 146), (4, .inr 145), (3, .inr 144), (2, .inr 143), (1, .inr 142), (0, .inr 141)]), .inl (3, [.inl 0, .inl 0, .inl 0, .inl 0, .inl 0, .inl (-4), .inl 255]), .inl (0, [.inl 0, .inl 0, .inl 0, .inl 0, .inl 0, .inl 0]), .inl (0, [.inl 0, .inl 0, .inl 0, .inl 0, .inl 0, .inl 0]), .inl (0, [.inl 0, .inl 0, .inl 0, .inl 0, .inl 0, .inl 0]), .inl (0, [.inl 0, .inl 0, .inl 0, .inl 0, .inl 0, .inl 0]), .inl (0, [.inl 0, .inl 0, .inl 0, .inl 0, .inl 0, .inl 0]), .inl (0, [.inl 0, .inl 0, .inl 0, .inl 0, .inl 0, .inl 0]), .inl (0, [.inl 0, .inl 0, .inl 0, .inl 0, .inl 0, .inl 0]), .inl (0, [.inl 0, .inl 0, .inl 0, .inl 0, .inl 0, .inl 0]), .inl (0, [.inl 0, .inl 0, .inl 0, .inl 0, .inl 0, .inl 0]), .inl (0, [.inl 0, .inl 0, .inl 0, .inl 0, .inl 0, .inl 0]), .inl (0, [.inl 0, .inl 0, .inl 0, .inl 0, .inl 0, .inl 0]), .inl (0, [.inl 0, .inl 0, .inl 0, .inl 0, .inl 0, .inl 0]), .inl (0, [.inl 0, .inl 0, .inl 0, .inl 0, .inl 0, .inl 0]), .inl (0, [.inl 0, .inl 0, .inl 0, .inl 0, .inl 0, .inl 0]), .inl (0, [.inl 0, .inl 0, .inl 0, .inl 0, .inl 0, .inl 0]), .inl (0, [.inl 0, .inl 0, .inl 0, .inl 0, .inl 0, .inl 0]), .inl (0, [.inl 0, .inl 0, .inl 0, .inl 0, .inl 0, .inl 0]), .inl (0, [.inl 0, .inl 0, .inl 0, .inl 0, .inl 0, .inl 0]), .inl (0, [.inl 0, .inl 0, .inl 0, .inl 0, .inl 0, .inl 0]), .inl (0, [.inl 0, .inl 0, .inl 0, .inl 0, .inl 0, .inl 0]), .inl (0, [.inl 0, .inl 0, .inl 0, .inl 0, .inl 0, .inl 0]), .inl (0, [.inl 0, .inl 0, .inl 0, .inl 0, .inl 0, .inl 0]), .inl (0, [.inl 0, .inl 0, .inl 0, .inl 0, .inl 0, .inl 0]), .inl (0, [.inl 0, .inl 0, .inl 0, .inl 0, .inl 0, .inl 0]), .inl (1, [.inl 0, .inl 0, .inl 0, .inl 0, .inl 0, .inl 0, .inl 0, .inl 0, .inr (some 106), .inr (some 107)]), .inr (0, 6, []), .inr (0, 6, []), .inl (1, [.inl 0, .inl 0, .inl 0, .inl 0, .inl 0, .inl 0, .inl 0, .inl 0, .inr (some 109), .inr (some 110)]), .inr (0, 6, []), .inr (0, 6, []), .inl (1, [.inl 0, .inl 0, .inl 0, .inl 0, .inl 0, .inl 0, .inl 0, .inl 0, .inr (some 112), .inr (some 113)]), .inr (0, 6, []), .inr (0, 6, []), .inl (1, [.inl 0, .inl 0, .inl 0, .inl 0, .inl 0, .inl 0, .inl 0, .inl 0, .inr (some 115), .inr (some 116)]), .inr (0, 6, []), .inr (0, 6, []), .inl (1, [.inl 0, .inl 0, .inl 0, .inl 0, .inl 0, .inl 0, .inl 0, .inl 0, .inr (some 118), .inr (some 119)]), .inr (0, 6, []), .inr (0, 6, []), .inl (1, [.inl 0, .inl 0, .inl 0, .inl 0, .inl 0, .inl 0, .inl 0, .inl 0, .inr (some 121), .inr (some 122)]), .inr (0, 6, []), .inr (0, 6, []), .inl (1, [.inl 0, .inl 0, .inl 0, .inl 0, .inl 0, .inl 0, .inl 0, .inl 0, .inr (some 124), .inr (some 125)]), .inr (0, 6, []), .inr (0, 6, []), .inl (1, [.inl 0, .inl 0, .inl 0, .inl 0, .inl 0, .inl 0, .inl 0, .inl 0, .inr (some 127), .inr (some 128)]), .inr (0, 6, []), .inr (0, 6, []), .inl (4, [.inl 0, .inl 0, .inl 0, .inl 0, .inl 0, .inl 0, .inl 0, .inl 0, .inl 0, .inl 0]), .inl (4, [.inl 0, .inl 0, .inl 0, .inl 0, .inl 0, .inl 0, .inl 0, .inl 0, .inl 0, .inl 0]), .inl (4, [.inl 0, .inl 0, .inl 0, .inl 0, .inl 0, .inl 0, .inl 0, .inl 0, .inl 0, .inl 0]), .inl (4, [.inl 0, .inl 0, .inl 0, .inl 0, .inl 0, .inl 0, .inl 0, .inl 0, .inl 0, .inl 0]), .inl (4, [.inl 0, .inl 0, .inl 0, .inl 0, .inl 0, .inl 0, .inl 0, .inl 0, .inl 0, .inl 0]), .inl (4, [.inl 0, .inl 0, .inl 0, .inl 0, .inl 0, .inl 0, .inl 0, .inl 0, .inl 0, .inl 0]), .inl (4, [.inl 0, .inl 0, .inl 0, .inl 0, .inl 0, .inl 0, .inl 0, .inl 0, .inl 0, .inl 0]), .inl (4, [.inl 0, .inl 0, .inl 0, .inl 0, .inl 0, .inl 0, .inl 0, .inl 0, .inl 0, .inl 0]), .inl (4, [.inl 0, .inl 0, .inl 0, .inl 0, .inl 0, .inl 0, .inl 0, .inl 0, .inl 0, .inl 0]), .inl (4, [.inl 0, .inl 0, .inl 0, .inl 0, .inl 0, .inl 0, .inl 0, .inl 0, .inl 0, .inl 0]), .inl (4, [.inl 0, .inl 0, .inl 0, .inl 0, .inl 0, .inl 0, .inl 0, .inl 0, .inl 0, .inl 0]), .inl (4, [.inl 0, .inl 0, .inl 0, .inl 0, .inl 0, .inl 0, .inl 0, .inl 0, .inl 0, .inl 0]), .inl (2, [.inl 0, .inl 0, .inl 0, .inl 0, .inl 0, .inl 0]), .inl (2, [.inl 0, .inl 0, .inl 0, .inl 0, .inl 0, .inl 0]), .inl (2, [.inl 0, .inl 0, .inl 0, .inl 0, .inl 0, .inl 0]), .inl (2, [.inl 0, .inl 0, .inl 0, .inl 0, .inl 0, .inl 0]), .inl (2, [.inl 0, .inl 0, .inl 0, .inl 0, .inl 0, .inl 0]), .inl (2, [.inl 0, .inl 0, .inl 0, .inl 0, .inl 0, .inl 0]), .inl (2, [.inl 0, .inl 0, .inl 0, .inl 0, .inl 0, .inl 0]), .inl (2, [.inl 0, .inl 0, .inl 0, .inl 0, .inl 0, .inl 0]), .inl (5, [.inr (some 1), .inr (some 150), .inr (some 151), .inr (some 152), .inr (some 153), .inr (some 154), .inl 0, .inl 0]), .inl (3, [.inl 0, .inl 0, .inl 0, .inl 0, .inl 0, .inl (-4), .inl 255]), .inr (0, 3072, []), .inr (0, 3073, []), .inr (0, 3073, []), .inr (0, 12, []), .inl (7, [.inr (some 156), .inr (some 157), .inr (some 158), .inl 0, .inl 0, .inl 0, .inl 0, .inl 0]), .inr (1, 120, []), .inr (2, 12, [(11, .inr 181), (10, .inr 179), (9, .inr 177), (8, .inr 175), (7, .inr 173), (6, .inr 171), (5, .inr 169), (4, .inr 167), (3, .inr 165), (2, .inr 163), (1, .inr 161), (0, .inr 159)]), .inr (4, 12, [(11, .inr 182), (10, .inr 180), (9, .inr 178), (8, .inr 176), (7, .inr 174), (6, .inr 172), (5, .inr 170), (4, .inr 168), (3, .inr 166), (2, .inr 164), (1, .inr 162), (0, .inr 160)]), .inl (0, [.inl 0, .inl 0, .inl 0, .inl 0, .inl 0, .inl 0]), .inl (4, [.inl 0, .inl 0, .inl 0, .inl 0, .inl 0, .inl 0, .inl 0, .inl 0, .inl 0, .inl 0]), .inl (0, [.inl 0, .inl 0, .inl 0, .inl 0, .inl 0, .inl 0]), .inl (4, [.inl 0, .inl 0, .inl 0, .inl 0, .inl 0, .inl 0, .inl 0, .inl 0, .inl 0, .inl 0]), .inl (0, [.inl 0, .inl 0, .inl 0, .inl 0, .inl 0, .inl 0]), .inl (4, [.inl 0, .inl 0, .inl 0, .inl 0, .inl 0, .inl 0, .inl 0, .inl 0, .inl 0, .inl 0]), .inl (0, [.inl 0, .inl 0, .inl 0, .inl 0, .inl 0, .inl 0]), .inl (4, [.inl 0, .inl 0, .inl 0, .inl 0, .inl 0, .inl 0, .inl 0, .inl 0, .inl 0, .inl 0]), .inl (0, [.inl 0, .inl 0, .inl 0, .inl 0, .inl 0, .inl 0]), .inl (4, [.inl 0, .inl 0, .inl 0, .inl 0, .inl 0, .inl 0, .inl 0, .inl 0, .inl 0, .inl 0]), .inl (0, [.inl 0, .inl 0, .inl 0, .inl 0, .inl 0, .inl 0]), .inl (4, [.inl 0, .inl 0, .inl 0, .inl 0, .inl 0, .inl 0, .inl 0, .inl 0, .inl 0, .inl 0]), .inl (0, [.inl 0, .inl 0, .inl 0, .inl 0, .inl 0, .inl 0]), .inl (4, [.inl 0, .inl 0, .inl 0, .inl 0, .inl 0, .inl 0, .inl 0, .inl 0, .inl 0, .inl 0]), .inl (0, [.inl 0, .inl 0, .inl 0, .inl 0, .inl 0, .inl 0]), .inl (4, [.inl 0, .inl 0, .inl 0, .inl 0, .inl 0, .inl 0, .inl 0, .inl 0, .inl 0, .inl 0]), .inl (0, [.inl 0, .inl 0, .inl 0, .inl 0, .inl 0, .inl 0]), .inl (4, [.inl 0, .inl 0, .inl 0, .inl 0, .inl 0, .inl 0, .inl 0, .inl 0, .inl 0, .inl 0]), .inl (0, [.inl 0, .inl 0, .inl 0, .inl 0, .inl 0, .inl 0]), .inl (4, [.inl 0, .inl 0, .inl 0, .inl 0, .inl 0, .inl 0, .inl 0, .inl 0, .inl 0, .inl 0]), .inl (0, [.inl 0, .inl 0, .inl 0, .inl 0, .inl 0, .inl 0]), .inl (4, [.inl 0, .inl 0, .inl 0, .inl 0, .inl 0, .inl 0, .inl 0, .inl 0, .inl 0, .inl 0]), .inl (0, [.inl 0, .inl 0, .inl 0, .inl 0, .inl 0, .inl 0]), .inl (4, [.inl 0, .inl 0, .inl 0, .inl 0, .inl 0, .inl 0, .inl 0, .inl 0, .inl 0, .inl 0]), .inr (6, 4, [(3, .inr 190), (2, .inr 188), (1, .inr 186), (0, .inr 184)]), .inl (6, [.inr (some 185), .inl (-1), .inl 0]), .inr (0, 16, []), .inl (6, [.inr (some 187), .inl (-1), .inl 0]), .inr (0, 16, []), .inl (6, [.inr (some 189), .inl (-1), .inl 0]), .inr (0, 16, []), .inl (6, [.inr (some 191), .inl (-1), .inl 0]), .inr (0, 16, [])]
def yMH : List yCell := [.inl (10, [.inl 0, .inr (some 193), .inl 0, .inr (some 194), .inl 0, .inr (some 195), .inl 0, .inr (some 196), .inr (some 197), .inr (some 198), .inr (some 199), .inr (some 200), .inr (some 201), .inl 0, .inr (some 202), .inr (some 203), .inl 0, .inl 0, .inl 0, .inr (some 204), .inl 0, .inr (some 205), .inl 0, .inr (some 206), .inl 0, .inr (some 207), .inr (some 208), .inr (some 209), .inr (some 210)]), .inr (0, 144, []), .inr (0, 40, []), .inr (0, 96, []), .inr (0, 24, []), .inr (0, 7, [(5, .inl 255), (4, .inl (-4)), (3, .inl 0)]), .inr (0, 12, []), .inr (0, 21504, []), .inr (0, 21504, []), .inr (0, 21504, []), .inr (0, 12, []), .inr (0, 120, []), .inr (0, 72, []), .inr (0, 96, []), .inr (0, 320, []), .inr (0, 4, []), .inr (0, 4, [(3, .inl (-1)), (2, .inl (-1)), (1, .inl (-1)), (0, .inl (-1))]), .inr (0, 4, []), .inr (0, 64, [])]
def yXM : List yCell := yXH ++ yMH
def yle {α : Type} (f : α → α → Bool) : List α → List α → Bool
  | [], [] => true
  | a :: r, b :: q => f a b && yle f r q
  | _, _ => false
theorem yle_ok {α : Type} {f : α → α → Bool} (hf : ∀ a b, f a b = true → a = b) : ∀ (x y : List α), yle f x y = true → x = y
  | [], [], _ => rfl
  | a :: r, b :: q, h => by
    simp only [yle, Bool.and_eq_true] at h
    rw [hf a b h.1, yle_ok hf r q h.2]
  | [], _ :: _, h => by simp [yle] at h
  | _ :: _, [], h => by simp [yle] at h
def ye1 : Int32 ⊕ Option Nat → Int32 ⊕ Option Nat → Bool
  | .inl x, .inl y => x == y
  | .inr x, .inr y => x == y
  | _, _ => false
def ye2 : Int32 ⊕ Nat → Int32 ⊕ Nat → Bool
  | .inl x, .inl y => x == y
  | .inr x, .inr y => x == y
  | _, _ => false
def ye3 (p q : Nat × (Int32 ⊕ Nat)) : Bool := p.1 == q.1 && ye2 p.2 q.2
def yec : yCell → yCell → Bool
  | .inl p, .inl q => p.1 == q.1 && yle ye1 p.2 q.2
  | .inr p, .inr q => p.1 == q.1 && p.2.1 == q.2.1 && yle ye3 p.2.2 q.2.2
  | _, _ => false
theorem ye1_ok (a b : Int32 ⊕ Option Nat) (h : ye1 a b = true) : a = b := by
  rcases a with x | x <;> rcases b with y | y <;> simp [ye1] at h <;> rw [h]
theorem ye2_ok (a b : Int32 ⊕ Nat) (h : ye2 a b = true) : a = b := by
  rcases a with x | x <;> rcases b with y | y <;> simp [ye2] at h <;> rw [h]
theorem ye3_ok (a b : Nat × (Int32 ⊕ Nat)) (h : ye3 a b = true) : a = b := by
  simp only [ye3, Bool.and_eq_true, beq_iff_eq] at h
  exact Prod.ext h.1 (ye2_ok _ _ h.2)
theorem yec_ok (a b : yCell) (h : yec a b = true) : a = b := by
  rcases a with x | x <;> rcases b with y | y
  · simp only [yec, Bool.and_eq_true, beq_iff_eq] at h
    exact congrArg Sum.inl (Prod.ext h.1 (yle_ok ye1_ok _ _ h.2))
  · simp [yec] at h
  · simp [yec] at h
  · simp only [yec, Bool.and_eq_true, beq_iff_eq] at h
    exact congrArg Sum.inr (Prod.ext h.1.1 (Prod.ext h.1.2 (yle_ok ye3_ok _ _ h.2)))
def yis (o : Option (List yCell)) (h : List yCell) : Bool := match o with
  | some g => yle yec g h
  | none => false
theorem yis_ok {o : Option (List yCell)} {h : List yCell} (e : yis o h = true) : o = some h := by
  cases o with
  | none => simp [yis] at e
  | some g => rw [yle_ok yec_ok g h e]
set_option maxRecDepth 1000000 in
theorem yrun_xb : yis (yrun 1200 9 4 0 0 0 (zL0 [zr 0 0] (yNL 9)) [] [.inl (9, ydef 9)]) yXH = true := by decide +kernel
set_option maxRecDepth 1000000 in
theorem yrun_mb : yis (yrun 400 10 4 0 0 0 (zL0 [zr 0 192] (yNL 10)) [] (yXH ++ [.inl (10, ydef 10)])) yXM = true := by decide +kernel
theorem yrun_x : yrun 1200 9 4 0 0 0 (zL0 [zr 0 0] (yNL 9)) [] [.inl (9, ydef 9)] = some yXH := yis_ok yrun_xb
theorem yrun_m : yrun 400 10 4 0 0 0 (zL0 [zr 0 192] (yNL 10)) [] (yXH ++ [.inl (10, ydef 10)]) = some yXM := yis_ok yrun_mb
theorem YM_x : YM 4 9 [zr 0 0] [.inl (9, ydef 9)] yXH := YM.intro (Nat.le_of_ble_eq_true rfl) (fun X C hr hn => ysound 1200 9 4 0 0 0 _ _ _ _ yrun_x (by decide) X C hn hr)
theorem YM_m : YM 4 10 [zr 0 192] (yXH ++ [.inl (10, ydef 10)]) yXM := YM.intro (Nat.le_of_ble_eq_true rfl) (fun X C hr hn => ysound 400 10 4 0 0 0 _ _ _ _ yrun_m (by decide) X C hn hr)
/-! ===== the memory of the two new objects ===== -/
def z0w : Nat → List (Nat × (Int32 ⊕ Nat))
  | 30 => [(5, .inl 255), (4, .inl (-4)), (3, .inl 0)]
  | 41 => [(3, .inl (-1)), (2, .inl (-1)), (1, .inl (-1)), (0, .inl (-1))]
  | _ => []
def z0 : zM := fun k _ j => match k with
  | 6 => if j = 5 then -4 else if j = 6 then 255 else 0
  | 23 => if j = 1 then -1 else 0
  | 30 => yri (z0w 30) j
  | 41 => yri (z0w 41) j
  | _ => 0
def zokf (k n : Nat) : Nat → List zFd → List (Int32 ⊕ Option Nat) → Bool
  | _, [], [] => true
  | j, none :: r, .inl x :: q => x == z0 k n j && zokf k n (j + 1) r q
  | j, some p :: r, .inr (some a) :: q => a == zoff p.1 (p.2 n) && p.1 != 44 && zokf k n (j + 1) r q
  | _, _, _ => false
def zok (k n : Nat) (e : yCell) : Bool := match zshp k, e with
  | .inl (ci, fds), .inl (c2, fs) => c2 == ci && zokf k n 0 fds fs
  | .inr (t, len, none), .inr (t2, l2, w) => t2 == t && l2 == len && decide (t < 2) && yle ye3 w (z0w k)
  | .inr (t, len, some p), .inr (t2, l2, w) => t2 == t && l2 == len && decide (2 ≤ t) && p.1 != 44 && (List.range len).all (fun i => match ylk w i with | some (.inr a) => a == zoff p.1 (p.2 n i) | _ => false)
  | _, _ => false
set_option maxRecDepth 1000000 in
theorem z0_all : ((List.range 44).all fun k => (List.range (zcnt k)).all fun n => match yXM[zoff k n]? with
  | some e => zok k n e
  | none => false) = true := by decide +kernel
theorem zokf_ok {lo : Nat} {ad : Nat → Nat → Nat} (had : ∀ k n, k ≠ 44 → ad k n = lo + zoff k n) {k n : Nat} : ∀ (fds : List zFd) (fs : List (Int32 ⊕ Option Nat)) (j : Nat), zokf k n j fds fs = true → fs.map (yfv lo) = zfl ad z0 k n j fds
  | [], [], j, h => rfl
  | none :: r, .inl x :: q, j, h => by
    simp only [zokf, Bool.and_eq_true, beq_iff_eq] at h
    simp only [List.map_cons, yfv, zfl]
    rw [h.1, zokf_ok had r q (j + 1) h.2]
  | some p :: r, .inr (some a) :: q, j, h => by
    simp only [zokf, Bool.and_eq_true, beq_iff_eq, bne_iff_ne] at h
    simp only [List.map_cons, yfv, zfl]
    rw [h.1.1, zokf_ok had r q (j + 1) h.2, had _ _ h.1.2]
  | [], _ :: _, j, h => by simp [zokf] at h
  | none :: r, [], j, h => by simp [zokf] at h
  | some p :: r, [], j, h => by simp [zokf] at h
  | none :: r, .inr x :: q, j, h => by simp [zokf] at h
  | some p :: r, .inl x :: q, j, h => by simp [zokf] at h
  | some p :: r, .inr none :: q, j, h => by simp [zokf] at h
theorem z0_arr {k t len : Nat} (n i : Nat) (h : zshp k = .inr (t, len, none)) : z0 k n i = yri (z0w k) i := by
  by_cases h6 : k = 6
  · subst h6; cases h
  · by_cases h23 : k = 23
    · subst h23; cases h
    · by_cases h30 : k = 30
      · subst h30; rfl
      · by_cases h41 : k = 41
        · subst h41; rfl
        · have e1 : z0w k = [] := by
            unfold z0w
            split
            · exact absurd rfl h30
            · exact absurd rfl h41
            · rfl
          rw [e1]
          unfold z0
          split
          · exact absurd rfl h6
          · exact absurd rfl h23
          · exact absurd rfl h30
          · exact absurd rfl h41
          · rfl
theorem arrV_congr {cI : ClassId} {N : Nat} {f g : Nat → Value} (h : ∀ j, j < N → f j = g j) : arrV cI N f = arrV cI N g := by
  unfold arrV
  congr 2
  funext j
  exact h j.val j.isLt
theorem zok_at {D : va_G} {cA : Nat → ClassId} {lo a : Nat} {ad : Nat → Nat → Nat} (had : ∀ k n, k ≠ 44 → ad k n = lo + zoff k n) {k n : Nat} {e : yCell} {H : Heap} (h : zok k n e = true) (hv : va_at D vwCl (a, yent cA lo e) H) : va_at D vwCl (a, zent cA ad z0 k n) H := by
  unfold zok at h
  split at h
  · rename_i ci fds c2 fs hs
    simp only [Bool.and_eq_true, beq_iff_eq] at h
    obtain ⟨rfl, h2⟩ := h
    rw [zent_obj hs, ← zokf_ok had fds fs 0 h2]
    exact hv
  · rename_i t len t2 l2 w hs
    simp only [Bool.and_eq_true, beq_iff_eq, decide_eq_true_eq] at h
    obtain ⟨⟨⟨rfl, rfl⟩, h3⟩, h4⟩ := h
    have h4 := yle_ok ye3_ok _ _ h4
    subst h4
    rw [zent_arr hs]
    have h9 : H[a]? = some (vp_cell (cA t2) (l2, if t2 < 2 then .inl (yri (z0w k)) else .inr (.inr (.inr (.inr (yrr lo (z0w k))))))) := hv
    rw [if_pos h3] at h9
    have e1 : z0 k n = yri (z0w k) := funext (fun i => z0_arr n i hs)
    show H[a]? = some (vp_cell (cA t2) (l2, .inl (z0 k n)))
    rw [e1]
    exact h9
  · rename_i t len p t2 l2 w hs
    simp only [Bool.and_eq_true, beq_iff_eq, decide_eq_true_eq, bne_iff_ne] at h
    obtain ⟨⟨⟨⟨rfl, rfl⟩, h3⟩, h4⟩, h5⟩ := h
    rw [zent_rar hs]
    have h9 : H[a]? = some (vp_cell (cA t2) (l2, if t2 < 2 then .inl (yri w) else .inr (.inr (.inr (.inr (yrr lo w)))))) := hv
    rw [if_neg (by omega), vp_cell_q] at h9
    show H[a]? = some (vp_cell (cA t2) (l2, .inr (.inr (.inr (.inr (fun i => some (ad p.1 (p.2 n i))))))))
    rw [h9, vp_cell_q]
    congr 1
    refine arrV_congr (fun j hj => ?_)
    have h6 := List.all_eq_true.mp h5 j (List.mem_range.mpr hj)
    split at h6
    · rename_i a2 h7
      simp only [beq_iff_eq] at h6
      simp only [yrr, h7]
      rw [had _ _ h4, h6]
    · cases h6
  · cases h
theorem zAt_start {D : va_G} {cA : Nat → ClassId} {lo : Nat} {ad : Nat → Nat → Nat} {H : Heap} (had : ∀ k n, k ≠ 44 → ad k n = lo + zoff k n) (h : yAt D cA lo yXM H) : zAt D cA ad z0 H := by
  intro k n hn
  have hk : k < 44 := by
    rcases Nat.lt_or_ge k 44 with q | q
    · exact q
    · rw [zcnt_big k q] at hn; omega
  have h1 := List.all_eq_true.mp z0_all k (List.mem_range.mpr hk)
  have h2 := List.all_eq_true.mp h1 n (List.mem_range.mpr hn)
  split at h2
  · rename_i e he
    rw [had k n (by omega)]
    exact zok_at had h2 (h.2 _ _ he)
  · cases h2
theorem zG_start {lo : Nat} {ad : Nat → Nat → Nat} (had : ∀ k n, k ≠ 44 → ad k n = lo + zoff k n) : zG ad lo := by
  have hk : ∀ {k n : Nat}, n < zcnt k → k ≠ 44 := fun {k n} h q => by subst q; rw [zcnt_big 44 (Nat.le_refl _)] at h; omega
  refine ⟨fun k n h => ?_, fun k n k' n' h h' e => ?_⟩
  · rw [had k n (hk h)]; omega
  · rw [had k n (hk h), had k' n' (hk h')] at e
    exact zoff_inj h h' (by omega)
