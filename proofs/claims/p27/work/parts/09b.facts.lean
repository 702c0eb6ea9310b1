/-- the cells: a field's block, and all of them -/
def q_kF (f : Nat) : List Nat := [0, f + 3, f + 4, f + 5, f + 6, f + 7, 0, f + 8, f + 9, f + 12, 0]
def q_kO (f : Nat) : List Nat := [0, f + 3, f + 4]
def q_blk (f : Nat) : List q_K := [.inl (0, q_kF f), .inr (0, 6), .inr (0, 6), .inr (0, 6), .inr (0, 6), .inr (0, 10), .inr (0, 360), .inl (4, q_kO (f + 7)), .inr (0, 50), .inr (0, 10), .inl (4, q_kO (f + 10)), .inr (0, 50), .inr (0, 10)]
def KC : List q_K := [.inl (8, [3, 16, 21, 22, 27, 29, 31, 124, 151])] ++ q_blk 1 ++ [.inl (2, [3, 0, 17, 18, 19, 20]), .inr (0, 36), .inr (0, 6), .inr (0, 6), .inr (0, 6), .inl (3, [3]), .inl (7, [3, 16, 23, 0, 24, 25, 26]), .inr (0, 15625), .inr (0, 6), .inr (0, 6), .inr (0, 6), .inl (6, [28, 0]), .inr (2, 80), .inl (5, [27, 0, 0, 30, 0]), .inr (0, 5), .inl (1, [0, 32]), .inr (3, 7)] ++
  q_blk 31 ++ q_blk 44 ++ q_blk 57 ++ q_blk 70 ++ q_blk 83 ++ q_blk 96 ++ q_blk 109 ++ [.inr (3, 2)] ++ q_blk 123 ++ q_blk 136 ++ [.inr (1, 2)] ++
  [.inr (0, 3), .inr (0, 16), .inr (0, 48), .inr (0, 4), .inr (0, 40), .inr (0, 50)]
theorem KC_len : KC.length = 156 := by decide +kernel
theorem kc0 : KC[0]? = some (.inl (8, [3, 16, 21, 22, 27, 29, 31, 124, 151])) := by decide +kernel
theorem kc1 : KC[1]? = some (.inl (0, q_kF 1)) := by decide +kernel
theorem kc2 : KC[2]? = some (.inr (0, 6)) := by decide +kernel
theorem kc3 : KC[3]? = some (.inr (0, 6)) := by decide +kernel
theorem kc4 : KC[4]? = some (.inr (0, 6)) := by decide +kernel
theorem kc5 : KC[5]? = some (.inr (0, 6)) := by decide +kernel
theorem kc6 : KC[6]? = some (.inr (0, 10)) := by decide +kernel
theorem kc7 : KC[7]? = some (.inr (0, 360)) := by decide +kernel
theorem kc8 : KC[8]? = some (.inl (4, q_kO 8)) := by decide +kernel
theorem kc9 : KC[9]? = some (.inr (0, 50)) := by decide +kernel
theorem kc10 : KC[10]? = some (.inr (0, 10)) := by decide +kernel
theorem kc11 : KC[11]? = some (.inl (4, q_kO 11)) := by decide +kernel
theorem kc12 : KC[12]? = some (.inr (0, 50)) := by decide +kernel
theorem kc13 : KC[13]? = some (.inr (0, 10)) := by decide +kernel
theorem kc14 : KC[14]? = some (.inl (2, [3, 0, 17, 18, 19, 20])) := by decide +kernel
theorem kc15 : KC[15]? = some (.inr (0, 36)) := by decide +kernel
theorem kc16 : KC[16]? = some (.inr (0, 6)) := by decide +kernel
theorem kc17 : KC[17]? = some (.inr (0, 6)) := by decide +kernel
theorem kc18 : KC[18]? = some (.inr (0, 6)) := by decide +kernel
theorem kc19 : KC[19]? = some (.inl (3, [3])) := by decide +kernel
theorem kc20 : KC[20]? = some (.inl (7, [3, 16, 23, 0, 24, 25, 26])) := by decide +kernel
theorem kc21 : KC[21]? = some (.inr (0, 15625)) := by decide +kernel
theorem kc22 : KC[22]? = some (.inr (0, 6)) := by decide +kernel
theorem kc23 : KC[23]? = some (.inr (0, 6)) := by decide +kernel
theorem kc24 : KC[24]? = some (.inr (0, 6)) := by decide +kernel
theorem kc25 : KC[25]? = some (.inl (6, [28, 0])) := by decide +kernel
theorem kc26 : KC[26]? = some (.inr (2, 80)) := by decide +kernel
theorem kc27 : KC[27]? = some (.inl (5, [27, 0, 0, 30, 0])) := by decide +kernel
theorem kc28 : KC[28]? = some (.inr (0, 5)) := by decide +kernel
theorem kc29 : KC[29]? = some (.inl (1, [0, 32])) := by decide +kernel
theorem kc30 : KC[30]? = some (.inr (3, 7)) := by decide +kernel
theorem kc31 : KC[31]? = some (.inl (0, q_kF 31)) := by decide +kernel
theorem kc32 : KC[32]? = some (.inr (0, 6)) := by decide +kernel
theorem kc33 : KC[33]? = some (.inr (0, 6)) := by decide +kernel
theorem kc34 : KC[34]? = some (.inr (0, 6)) := by decide +kernel
theorem kc35 : KC[35]? = some (.inr (0, 6)) := by decide +kernel
theorem kc36 : KC[36]? = some (.inr (0, 10)) := by decide +kernel
theorem kc37 : KC[37]? = some (.inr (0, 360)) := by decide +kernel
theorem kc38 : KC[38]? = some (.inl (4, q_kO 38)) := by decide +kernel
theorem kc39 : KC[39]? = some (.inr (0, 50)) := by decide +kernel
theorem kc40 : KC[40]? = some (.inr (0, 10)) := by decide +kernel
theorem kc41 : KC[41]? = some (.inl (4, q_kO 41)) := by decide +kernel
theorem kc42 : KC[42]? = some (.inr (0, 50)) := by decide +kernel
theorem kc43 : KC[43]? = some (.inr (0, 10)) := by decide +kernel
theorem kc44 : KC[44]? = some (.inl (0, q_kF 44)) := by decide +kernel
theorem kc45 : KC[45]? = some (.inr (0, 6)) := by decide +kernel
theorem kc46 : KC[46]? = some (.inr (0, 6)) := by decide +kernel
theorem kc47 : KC[47]? = some (.inr (0, 6)) := by decide +kernel
theorem kc48 : KC[48]? = some (.inr (0, 6)) := by decide +kernel
theorem kc49 : KC[49]? = some (.inr (0, 10)) := by decide +kernel
theorem kc50 : KC[50]? = some (.inr (0, 360)) := by decide +kernel
theorem kc51 : KC[51]? = some (.inl (4, q_kO 51)) := by decide +kernel
theorem kc52 : KC[52]? = some (.inr (0, 50)) := by decide +kernel
theorem kc53 : KC[53]? = some (.inr (0, 10)) := by decide +kernel
theorem kc54 : KC[54]? = some (.inl (4, q_kO 54)) := by decide +kernel
theorem kc55 : KC[55]? = some (.inr (0, 50)) := by decide +kernel
theorem kc56 : KC[56]? = some (.inr (0, 10)) := by decide +kernel
theorem kc57 : KC[57]? = some (.inl (0, q_kF 57)) := by decide +kernel
theorem kc58 : KC[58]? = some (.inr (0, 6)) := by decide +kernel
theorem kc59 : KC[59]? = some (.inr (0, 6)) := by decide +kernel
theorem kc60 : KC[60]? = some (.inr (0, 6)) := by decide +kernel
theorem kc61 : KC[61]? = some (.inr (0, 6)) := by decide +kernel
theorem kc62 : KC[62]? = some (.inr (0, 10)) := by decide +kernel
theorem kc63 : KC[63]? = some (.inr (0, 360)) := by decide +kernel
theorem kc64 : KC[64]? = some (.inl (4, q_kO 64)) := by decide +kernel
theorem kc65 : KC[65]? = some (.inr (0, 50)) := by decide +kernel
theorem kc66 : KC[66]? = some (.inr (0, 10)) := by decide +kernel
theorem kc67 : KC[67]? = some (.inl (4, q_kO 67)) := by decide +kernel
theorem kc68 : KC[68]? = some (.inr (0, 50)) := by decide +kernel
theorem kc69 : KC[69]? = some (.inr (0, 10)) := by decide +kernel
theorem kc70 : KC[70]? = some (.inl (0, q_kF 70)) := by decide +kernel
theorem kc71 : KC[71]? = some (.inr (0, 6)) := by decide +kernel
theorem kc72 : KC[72]? = some (.inr (0, 6)) := by decide +kernel
theorem kc73 : KC[73]? = some (.inr (0, 6)) := by decide +kernel
theorem kc74 : KC[74]? = some (.inr (0, 6)) := by decide +kernel
theorem kc75 : KC[75]? = some (.inr (0, 10)) := by decide +kernel
theorem kc76 : KC[76]? = some (.inr (0, 360)) := by decide +kernel
theorem kc77 : KC[77]? = some (.inl (4, q_kO 77)) := by decide +kernel
theorem kc78 : KC[78]? = some (.inr (0, 50)) := by decide +kernel
theorem kc79 : KC[79]? = some (.inr (0, 10)) := by decide +kernel
theorem kc80 : KC[80]? = some (.inl (4, q_kO 80)) := by decide +kernel
theorem kc81 : KC[81]? = some (.inr (0, 50)) := by decide +kernel
theorem kc82 : KC[82]? = some (.inr (0, 10)) := by decide +kernel
theorem kc83 : KC[83]? = some (.inl (0, q_kF 83)) := by decide +kernel
theorem kc84 : KC[84]? = some (.inr (0, 6)) := by decide +kernel
theorem kc85 : KC[85]? = some (.inr (0, 6)) := by decide +kernel
theorem kc86 : KC[86]? = some (.inr (0, 6)) := by decide +kernel
theorem kc87 : KC[87]? = some (.inr (0, 6)) := by decide +kernel
theorem kc88 : KC[88]? = some (.inr (0, 10)) := by decide +kernel
theorem kc89 : KC[89]? = some (.inr (0, 360)) := by decide +kernel
theorem kc90 : KC[90]? = some (.inl (4, q_kO 90)) := by decide +kernel
theorem kc91 : KC[91]? = some (.inr (0, 50)) := by decide +kernel
theorem kc92 : KC[92]? = some (.inr (0, 10)) := by decide +kernel
theorem kc93 : KC[93]? = some (.inl (4, q_kO 93)) := by decide +kernel
theorem kc94 : KC[94]? = some (.inr (0, 50)) := by decide +kernel
theorem kc95 : KC[95]? = some (.inr (0, 10)) := by decide +kernel
theorem kc96 : KC[96]? = some (.inl (0, q_kF 96)) := by decide +kernel
theorem kc97 : KC[97]? = some (.inr (0, 6)) := by decide +kernel
theorem kc98 : KC[98]? = some (.inr (0, 6)) := by decide +kernel
theorem kc99 : KC[99]? = some (.inr (0, 6)) := by decide +kernel
theorem kc100 : KC[100]? = some (.inr (0, 6)) := by decide +kernel
theorem kc101 : KC[101]? = some (.inr (0, 10)) := by decide +kernel
theorem kc102 : KC[102]? = some (.inr (0, 360)) := by decide +kernel
theorem kc103 : KC[103]? = some (.inl (4, q_kO 103)) := by decide +kernel
theorem kc104 : KC[104]? = some (.inr (0, 50)) := by decide +kernel
theorem kc105 : KC[105]? = some (.inr (0, 10)) := by decide +kernel
theorem kc106 : KC[106]? = some (.inl (4, q_kO 106)) := by decide +kernel
theorem kc107 : KC[107]? = some (.inr (0, 50)) := by decide +kernel
theorem kc108 : KC[108]? = some (.inr (0, 10)) := by decide +kernel
theorem kc109 : KC[109]? = some (.inl (0, q_kF 109)) := by decide +kernel
theorem kc110 : KC[110]? = some (.inr (0, 6)) := by decide +kernel
theorem kc111 : KC[111]? = some (.inr (0, 6)) := by decide +kernel
theorem kc112 : KC[112]? = some (.inr (0, 6)) := by decide +kernel
theorem kc113 : KC[113]? = some (.inr (0, 6)) := by decide +kernel
theorem kc114 : KC[114]? = some (.inr (0, 10)) := by decide +kernel
theorem kc115 : KC[115]? = some (.inr (0, 360)) := by decide +kernel
theorem kc116 : KC[116]? = some (.inl (4, q_kO 116)) := by decide +kernel
theorem kc117 : KC[117]? = some (.inr (0, 50)) := by decide +kernel
theorem kc118 : KC[118]? = some (.inr (0, 10)) := by decide +kernel
theorem kc119 : KC[119]? = some (.inl (4, q_kO 119)) := by decide +kernel
theorem kc120 : KC[120]? = some (.inr (0, 50)) := by decide +kernel
theorem kc121 : KC[121]? = some (.inr (0, 10)) := by decide +kernel
theorem kc122 : KC[122]? = some (.inr (3, 2)) := by decide +kernel
theorem kc123 : KC[123]? = some (.inl (0, q_kF 123)) := by decide +kernel
theorem kc124 : KC[124]? = some (.inr (0, 6)) := by decide +kernel
theorem kc125 : KC[125]? = some (.inr (0, 6)) := by decide +kernel
theorem kc126 : KC[126]? = some (.inr (0, 6)) := by decide +kernel
theorem kc127 : KC[127]? = some (.inr (0, 6)) := by decide +kernel
theorem kc128 : KC[128]? = some (.inr (0, 10)) := by decide +kernel
theorem kc129 : KC[129]? = some (.inr (0, 360)) := by decide +kernel
theorem kc130 : KC[130]? = some (.inl (4, q_kO 130)) := by decide +kernel
theorem kc131 : KC[131]? = some (.inr (0, 50)) := by decide +kernel
theorem kc132 : KC[132]? = some (.inr (0, 10)) := by decide +kernel
theorem kc133 : KC[133]? = some (.inl (4, q_kO 133)) := by decide +kernel
theorem kc134 : KC[134]? = some (.inr (0, 50)) := by decide +kernel
theorem kc135 : KC[135]? = some (.inr (0, 10)) := by decide +kernel
theorem kc136 : KC[136]? = some (.inl (0, q_kF 136)) := by decide +kernel
theorem kc137 : KC[137]? = some (.inr (0, 6)) := by decide +kernel
theorem kc138 : KC[138]? = some (.inr (0, 6)) := by decide +kernel
theorem kc139 : KC[139]? = some (.inr (0, 6)) := by decide +kernel
theorem kc140 : KC[140]? = some (.inr (0, 6)) := by decide +kernel
theorem kc141 : KC[141]? = some (.inr (0, 10)) := by decide +kernel
theorem kc142 : KC[142]? = some (.inr (0, 360)) := by decide +kernel
theorem kc143 : KC[143]? = some (.inl (4, q_kO 143)) := by decide +kernel
theorem kc144 : KC[144]? = some (.inr (0, 50)) := by decide +kernel
theorem kc145 : KC[145]? = some (.inr (0, 10)) := by decide +kernel
theorem kc146 : KC[146]? = some (.inl (4, q_kO 146)) := by decide +kernel
theorem kc147 : KC[147]? = some (.inr (0, 50)) := by decide +kernel
theorem kc148 : KC[148]? = some (.inr (0, 10)) := by decide +kernel
theorem kc149 : KC[149]? = some (.inr (1, 2)) := by decide +kernel
theorem kc150 : KC[150]? = some (.inr (0, 3)) := by decide +kernel
theorem kc151 : KC[151]? = some (.inr (0, 16)) := by decide +kernel
theorem kc152 : KC[152]? = some (.inr (0, 48)) := by decide +kernel
theorem kc153 : KC[153]? = some (.inr (0, 4)) := by decide +kernel
theorem kc154 : KC[154]? = some (.inr (0, 40)) := by decide +kernel
theorem kc155 : KC[155]? = some (.inr (0, 50)) := by decide +kernel
