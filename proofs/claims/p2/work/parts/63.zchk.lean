theorem zpT120 : zcheck zpZ zpRS zpMT [] zpC120 zpP7 1 zpA120 [] 3000 = true := by decide +kernel
theorem zpT121 : zcheck zpZ zpRS zpMT [zpC118, zpC119, zpC120] zpC121 zpP7 1 zpA121 [] 3000 = true := by decide +kernel
theorem zpT122 : zcheck zpZ zpRS zpMT [zpC6, zpC50, zpC121] zpC122 zpP0 1 zpA122 [] 3000 = true := by decide +kernel
theorem zpT123 : zcheck zpZ zpRS zpMT [] zpC123 zpP13 1 zpA123 [] 3000 = true := by decide +kernel
theorem zpT124 : zcheck zpZ zpRS zpMT [zpC123] zpC124 zpP7 1 zpA124 [] 3000 = true := by decide +kernel
theorem zpT125 : zcheck zpZ zpRS zpMT [zpC6, zpC48, zpC50, zpC124] zpC125 zpP0 1 zpA125 [] 3000 = true := by decide +kernel
theorem zpT126 : zcheck zpZ zpRS zpMT [zpC25] zpC126 zpP7 1 zpA126 [] 3000 = true := by decide +kernel
theorem zpT127 : zcheck zpZ zpRS zpMT [zpC6, zpC16, zpC126] zpC127 zpP0 1 zpA127 [] 3000 = true := by decide +kernel
theorem zpT128 : zcheck zpZ zpRS zpMT [zpC13] zpC128 zpP2 0 zpA128 [] 3000 = true := by decide +kernel
theorem zpT129 : zcheck zpZ zpRS zpMT [zpC128] zpC129 zpP0 1 zpA129 [] 3000 = true := by decide +kernel
theorem zpT130 : zcheck zpZ zpRS zpMT [zpC13] zpC130 zpP2 0 zpA130 [] 3000 = true := by decide +kernel
theorem zpT131 : zcheck zpZ zpRS zpMT [zpC130] zpC131 zpP0 1 zpA131 [] 3000 = true := by decide +kernel
theorem zpT132 : zcheck zpZ zpRS zpMT [] zpC132 zpP1 0 zpA132 [] 3000 = true := by decide +kernel
theorem zpT133 : zcheck zpZ zpRS zpMT [] zpC133 zpP1 1 zpA133 [] 3000 = true := by decide +kernel
theorem zpT134 : zcheck zpZ zpRS zpMT [zpC50, zpC133] zpC134 zpP1 1 zpA134 [] 3000 = true := by decide +kernel
theorem zpT135 : zcheck zpZ zpRS zpMT [zpC134] zpC135 zpP1 1 zpA135 [] 3000 = true := by decide +kernel
theorem zpT136 : zcheck zpZ zpRS zpMT [] zpC136 zpP1 1 zpA136 [] 3000 = true := by decide +kernel
theorem zpT137 : zcheck zpZ zpRS zpMT [zpC50, zpC136] zpC137 zpP1 1 zpA137 [] 3000 = true := by decide +kernel
theorem zpT138 : zcheck zpZ zpRS zpMT [zpC137] zpC138 zpP1 1 zpA138 [] 3000 = true := by decide +kernel
theorem zpT139 : zcheck zpZ zpRS zpMT [] zpC139 zpP1 1 zpA139 [] 3000 = true := by decide +kernel
theorem zpT140 : zcheck zpZ zpRS zpMT [zpC50, zpC139] zpC140 zpP1 1 zpA140 [] 3000 = true := by decide +kernel
theorem zpT141 : zcheck zpZ zpRS zpMT [] zpC141 zpP1 1 zpA141 [] 3000 = true := by decide +kernel
theorem zpT142 : zcheck zpZ zpRS zpMT [zpC50, zpC141] zpC142 zpP1 1 zpA142 [] 3000 = true := by decide +kernel
theorem zpT143 : zcheck zpZ zpRS zpMT [zpC142] zpC143 zpP1 1 zpA143 [] 3000 = true := by decide +kernel
theorem zpT144 : zcheck zpZ zpRS zpMT [zpC143] zpC144 zpP1 1 zpA144 [] 3000 = true := by decide +kernel
theorem zpT145 : zcheck zpZ zpRS zpMT [zpC50, zpC144] zpC145 zpP1 1 zpA145 [] 3000 = true := by decide +kernel
theorem zpT146 : zcheck zpZ zpRS zpMT [zpC50, zpC139] zpC146 zpP1 1 zpA146 [] 3000 = true := by decide +kernel
theorem zpT147 : zcheck zpZ zpRS zpMT [zpC50, zpC144] zpC147 zpP1 1 zpA147 [] 3000 = true := by decide +kernel
theorem zpT148 : zcheck zpZ zpRS zpMT [] zpC148 zpP1 1 zpA148 [] 3000 = true := by decide +kernel
theorem zpT149 : zcheck zpZ zpRS zpMT [zpC50, zpC148] zpC149 zpP1 1 zpA149 [] 3000 = true := by decide +kernel
theorem zpT150 : zcheck zpZ zpRS zpMT [zpC149] zpC150 zpP1 1 zpA150 [] 3000 = true := by decide +kernel
theorem zpT151 : zcheck zpZ zpRS zpMT [zpC150] zpC151 zpP1 1 zpA151 [] 3000 = true := by decide +kernel
theorem zpT152 : zcheck zpZ zpRS zpMT [zpC50, zpC151] zpC152 zpP1 1 zpA152 [] 3000 = true := by decide +kernel
theorem zpT153 : zcheck zpZ zpRS zpMT [zpC152] zpC153 zpP1 1 zpA153 [] 3000 = true := by decide +kernel
theorem zpT154 : zcheck zpZ zpRS zpMT [zpC153] zpC154 zpP1 1 zpA154 [] 3000 = true := by decide +kernel
theorem zpT155 : zcheck zpZ zpRS zpMT [zpC50, zpC154] zpC155 zpP1 1 zpA155 [] 3000 = true := by decide +kernel
theorem zpT156 : zcheck zpZ zpRS zpMT [zpC50, zpC139] zpC156 zpP1 1 zpA156 [] 3000 = true := by decide +kernel
theorem zpT157 : zcheck zpZ zpRS zpMT [zpC50, zpC151] zpC157 zpP1 1 zpA157 [] 3000 = true := by decide +kernel
theorem zpT158 : zcheck zpZ zpRS zpMT [zpC157] zpC158 zpP1 1 zpA158 [] 3000 = true := by decide +kernel
theorem zpT159 : zcheck zpZ zpRS zpMT [zpC158] zpC159 zpP1 1 zpA159 [] 3000 = true := by decide +kernel
theorem zpT160 : zcheck zpZ zpRS zpMT [zpC50, zpC159] zpC160 zpP1 1 zpA160 [] 3000 = true := by decide +kernel
theorem zpT161 : zcheck zpZ zpRS zpMT [zpC50, zpC139] zpC161 zpP1 1 zpA161 [] 3000 = true := by decide +kernel
theorem zpT162 : zcheck zpZ zpRS zpMT [zpC140, zpC145, zpC146, zpC147, zpC155, zpC156, zpC160, zpC161] zpC162 zpP1 1 zpA162 [] 3000 = true := by decide +kernel
theorem zpT163 : zcheck zpZ zpRS zpMT [zpC162] zpC163 zpP1 1 zpA163 [] 3000 = true := by decide +kernel
theorem zpT164 : zcheck zpZ zpRS zpMT [zpC50, zpC163] zpC164 zpP1 1 zpA164 [] 3000 = true := by decide +kernel
theorem zpT165 : zcheck zpZ zpRS zpMT [zpC164] zpC165 zpP1 1 zpA165 [] 3000 = true := by decide +kernel
theorem zpT166 : zcheck zpZ zpRS zpMT [zpC140] zpC166 zpP1 1 zpA166 [] 3000 = true := by decide +kernel
theorem zpT167 : zcheck zpZ zpRS zpMT [zpC166] zpC167 zpP1 1 zpA167 [] 3000 = true := by decide +kernel
theorem zpT168 : zcheck zpZ zpRS zpMT [zpC50, zpC167] zpC168 zpP1 1 zpA168 [] 3000 = true := by decide +kernel
theorem zpT169 : zcheck zpZ zpRS zpMT [zpC168] zpC169 zpP1 1 zpA169 [] 3000 = true := by decide +kernel
theorem zpT170 : zcheck zpZ zpRS zpMT [zpC50, zpC141] zpC170 zpP1 1 zpA170 [] 3000 = true := by decide +kernel
theorem zpT171 : zcheck zpZ zpRS zpMT [] zpC171 zpP1 1 zpA171 [] 3000 = true := by decide +kernel
theorem zpT172 : zcheck zpZ zpRS zpMT [zpC50, zpC171] zpC172 zpP1 1 zpA172 [] 3000 = true := by decide +kernel
theorem zpT173 : zcheck zpZ zpRS zpMT [zpC172] zpC173 zpP1 1 zpA173 [] 3000 = true := by decide +kernel
theorem zpT174 : zcheck zpZ zpRS zpMT [zpC173] zpC174 zpP1 1 zpA174 [] 3000 = true := by decide +kernel
theorem zpT175 : zcheck zpZ zpRS zpMT [zpC50, zpC174] zpC175 zpP1 1 zpA175 [] 3000 = true := by decide +kernel
theorem zpT176 : zcheck zpZ zpRS zpMT [zpC175] zpC176 zpP1 1 zpA176 [] 3000 = true := by decide +kernel
theorem zpT177 : zcheck zpZ zpRS zpMT [zpC176] zpC177 zpP1 1 zpA177 [] 3000 = true := by decide +kernel
theorem zpT178 : zcheck zpZ zpRS zpMT [zpC50, zpC177] zpC178 zpP1 1 zpA178 [] 3000 = true := by decide +kernel
theorem zpT179 : zcheck zpZ zpRS zpMT [zpC50, zpC141] zpC179 zpP1 1 zpA179 [] 3000 = true := by decide +kernel
