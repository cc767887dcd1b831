theorem zpT117 : zcheck zpZ zpRS zpMT [] zpC117 zpP9 0 zpA117 [] 3000 = true := by decide +kernel
theorem zpT119 : zcheck zpZ zpRS zpMT [] zpC119 zpP6 2 zpA119 [] 3000 = true := by decide +kernel
theorem zpT120 : zcheck zpZ zpRS zpMT [] zpC120 zpP6 2 zpA120 [] 3000 = true := by decide +kernel
theorem zpT121 : zcheck zpZ zpRS zpMT [] zpC121 zpP0 2 zpA121 [] 3000 = true := by decide +kernel
theorem zpT122 : zcheck zpZ zpRS zpMT [zpC4, zpC74, zpC121] zpC122 zpP6 2 zpA122 [] 3000 = true := by decide +kernel
theorem zpT124 : zcheck zpZ zpRS zpMT [] zpC124 zpP3 1 zpA124 [] 3000 = true := by decide +kernel
theorem zpT125 : zcheck zpZ zpRS zpMT [zpC78, zpC124] zpC125 zpP0 1 zpA125 [] 3000 = true := by decide +kernel
theorem zpT126 : zcheck zpZ zpRS zpMT [zpC2, zpC78, zpC81] zpC126 zpP0 1 zpA126 [] 3000 = true := by decide +kernel
theorem zpT127 : zcheck zpZ zpRS zpMT [] zpC127 zpP3 2 zpA127 [] 3000 = true := by decide +kernel
theorem zpT128 : zcheck zpZ zpRS zpMT [zpC74, zpC127] zpC128 zpP0 1 zpA128 [] 3000 = true := by decide +kernel
theorem zpT129 : zcheck zpZ zpRS zpMT [] zpC129 zpP3 1 zpA129 [] 3000 = true := by decide +kernel
theorem zpT130 : zcheck zpZ zpRS zpMT [] zpC130 zpP5 2 zpA130 [] 3000 = true := by decide +kernel
theorem zpT131 : zcheck zpZ zpRS zpMT [zpC127, zpC129, zpC130] zpC131 zpP5 2 zpA131 [] 3000 = true := by decide +kernel
theorem zpT132 : zcheck zpZ zpRS zpMT [zpC78, zpC82, zpC131] zpC132 zpP0 1 zpA132 [] 3000 = true := by decide +kernel
theorem zpT133 : zcheck zpZ zpRS zpMT [zpC131] zpC133 zpP5 1 zpA133 [] 3000 = true := by decide +kernel
theorem zpT134 : zcheck zpZ zpRS zpMT [zpC74, zpC82, zpC133] zpC134 zpP0 1 zpA134 [] 3000 = true := by decide +kernel
theorem zpT135 : zcheck zpZ zpRS zpMT [zpC75, zpC78] zpC135 zpP0 1 zpA135 [] 3000 = true := by decide +kernel
theorem zpT136 : zcheck zpZ zpRS zpMT [zpC127] zpC136 zpP3 2 zpA136 [] 3000 = true := by decide +kernel
theorem zpT137 : zcheck zpZ zpRS zpMT [zpC136] zpC137 zpP5 1 zpA137 [] 3000 = true := by decide +kernel
theorem zpT138 : zcheck zpZ zpRS zpMT [zpC74, zpC82, zpC133, zpC137] zpC138 zpP0 1 zpA138 [] 3000 = true := by decide +kernel
theorem zpT139 : zcheck zpZ zpRS zpMT [zpC131] zpC139 zpP5 3 zpA139 [] 3000 = true := by decide +kernel
theorem zpT140 : zcheck zpZ zpRS zpMT [zpC78, zpC139] zpC140 zpP0 3 zpA140 [] 3000 = true := by decide +kernel
theorem zpT141 : zcheck zpZ zpRS zpMT [] zpC141 zpP5 1 zpA141 [] 3000 = true := by decide +kernel
theorem zpT142 : zcheck zpZ zpRS zpMT [zpC127, zpC141] zpC142 zpP5 2 zpA142 [] 3000 = true := by decide +kernel
theorem zpT143 : zcheck zpZ zpRS zpMT [zpC70] zpC143 zpP5 1 zpA143 [] 3000 = true := by decide +kernel
theorem zpT144 : zcheck zpZ zpRS zpMT [zpC130] zpC144 zpP5 1 zpA144 [] 3000 = true := by decide +kernel
theorem zpT145 : zcheck zpZ zpRS zpMT [] zpC145 zpP13 1 zpA145 [] 3000 = true := by decide +kernel
theorem zpT146 : zcheck zpZ zpRS zpMT [] zpC146 zpP14 1 zpA146 [] 3000 = true := by decide +kernel
theorem zpT147 : zcheck zpZ zpRS zpMT [zpC143, zpC144, zpC145, zpC146] zpC147 zpP5 1 zpA147 [] 3000 = true := by decide +kernel
theorem zpT148 : zcheck zpZ zpRS zpMT [zpC142, zpC147] zpC148 zpP0 1 zpA148 [] 3000 = true := by decide +kernel
theorem zpT149 : zcheck zpZ zpRS zpMT [] zpC149 zpP7 0 zpA149 [] 3000 = true := by decide +kernel
theorem zpT150 : zcheck zpZ zpRS zpMT [] zpC150 zpP0 2 zpA150 [] 3000 = true := by decide +kernel
theorem zpT151 : zcheck zpZ zpRS zpMT [] zpC151 zpP0 2 zpA151 [] 3000 = true := by decide +kernel
theorem zpT152 : zcheck zpZ zpRS zpMT [zpC121, zpC149, zpC150, zpC151] zpC152 zpP0 1 zpA152 [] 3000 = true := by decide +kernel
theorem zpT159 : zcheck zpZ zpRS zpMT [zpC88, zpC90, zpC100] zpC159 zpP9 1 zpA159 [] 3000 = true := by decide +kernel
theorem zpT163 : zcheck zpZ zpRS zpMT [zpC89, zpC90, zpC96, zpC98, zpC100, zpC159, zpC161, zpC162] zpC163 zpP10 0 zpA163 [] 3000 = true := by decide +kernel
theorem zpT164 : zcheck zpZ zpRS zpMT [zpC89, zpC96, zpC97, zpC158, zpC163] zpC164 zpP10 0 zpA164 [] 3000 = true := by decide +kernel
theorem zpT165 : zcheck zpZ zpRS zpMT [zpC89, zpC96, zpC97, zpC158, zpC164] zpC165 zpP10 0 zpA165 [] 3000 = true := by decide +kernel
theorem zpT166 : zcheck zpZ zpRS zpMT [zpC89, zpC96, zpC97, zpC157, zpC158, zpC165] zpC166 zpP10 0 zpA166 [] 3000 = true := by decide +kernel
theorem zpT167 : zcheck zpZ zpRS zpMT [zpC97, zpC156, zpC166] zpC167 zpP10 0 zpA167 [] 3000 = true := by decide +kernel
theorem zpT168 : zcheck zpZ zpRS zpMT [zpC97, zpC155, zpC167] zpC168 zpP10 0 zpA168 [] 3000 = true := by decide +kernel
theorem zpT169 : zcheck zpZ zpRS zpMT [zpC89, zpC90, zpC96, zpC97, zpC98, zpC100, zpC157, zpC158, zpC159, zpC160, zpC161, zpC162, zpC163, zpC168] zpC169 zpP10 0 zpA169 [] 3000 = true := by decide +kernel
theorem zpT170 : zcheck zpZ zpRS zpMT [zpC89, zpC96, zpC97, zpC158, zpC169] zpC170 zpP10 0 zpA170 [] 3000 = true := by decide +kernel
theorem zpT171 : zcheck zpZ zpRS zpMT [zpC89, zpC96, zpC97, zpC158, zpC170] zpC171 zpP10 0 zpA171 [] 3000 = true := by decide +kernel
theorem zpT172 : zcheck zpZ zpRS zpMT [zpC89, zpC96, zpC97, zpC157, zpC158, zpC171] zpC172 zpP10 0 zpA172 [] 3000 = true := by decide +kernel
theorem zpT173 : zcheck zpZ zpRS zpMT [zpC97, zpC156, zpC172] zpC173 zpP10 0 zpA173 [] 3000 = true := by decide +kernel
theorem zpT174 : zcheck zpZ zpRS zpMT [zpC97, zpC155, zpC173] zpC174 zpP10 0 zpA174 [] 3000 = true := by decide +kernel
theorem zpT175 : zcheck zpZ zpRS zpMT [zpC89, zpC90, zpC96, zpC97, zpC98, zpC100, zpC157, zpC158, zpC159, zpC160, zpC161, zpC162, zpC169, zpC174] zpC175 zpP10 0 zpA175 [] 3000 = true := by decide +kernel
theorem zpT176 : zcheck zpZ zpRS zpMT [zpC89, zpC96, zpC97, zpC158, zpC175] zpC176 zpP10 0 zpA176 [] 3000 = true := by decide +kernel
theorem zpT177 : zcheck zpZ zpRS zpMT [zpC89, zpC96, zpC97, zpC158, zpC176] zpC177 zpP10 0 zpA177 [] 3000 = true := by decide +kernel
theorem zpT178 : zcheck zpZ zpRS zpMT [zpC89, zpC96, zpC97, zpC157, zpC158, zpC177] zpC178 zpP10 0 zpA178 [] 3000 = true := by decide +kernel
theorem zpT179 : zcheck zpZ zpRS zpMT [zpC97, zpC156, zpC178] zpC179 zpP10 0 zpA179 [] 3000 = true := by decide +kernel
theorem zpT180 : zcheck zpZ zpRS zpMT [zpC97, zpC155, zpC179] zpC180 zpP10 0 zpA180 [] 3000 = true := by decide +kernel
theorem zpT181 : zcheck zpZ zpRS zpMT [zpC89, zpC90, zpC96, zpC97, zpC98, zpC100, zpC157, zpC158, zpC159, zpC160, zpC161, zpC162, zpC175, zpC180] zpC181 zpP10 0 zpA181 [] 3000 = true := by decide +kernel
theorem zpT182 : zcheck zpZ zpRS zpMT [zpC89, zpC96, zpC97, zpC158, zpC181] zpC182 zpP10 0 zpA182 [] 3000 = true := by decide +kernel
theorem zpT183 : zcheck zpZ zpRS zpMT [zpC89, zpC96, zpC97, zpC158, zpC182] zpC183 zpP10 0 zpA183 [] 3000 = true := by decide +kernel
theorem zpT184 : zcheck zpZ zpRS zpMT [zpC89, zpC96, zpC97, zpC157, zpC158, zpC183] zpC184 zpP10 0 zpA184 [] 3000 = true := by decide +kernel
theorem zpT185 : zcheck zpZ zpRS zpMT [zpC97, zpC156, zpC184] zpC185 zpP10 0 zpA185 [] 3000 = true := by decide +kernel
theorem zpT186 : zcheck zpZ zpRS zpMT [zpC97, zpC155, zpC185] zpC186 zpP10 0 zpA186 [] 3000 = true := by decide +kernel
theorem zpT187 : zcheck zpZ zpRS zpMT [zpC89, zpC90, zpC96, zpC97, zpC98, zpC100, zpC157, zpC158, zpC159, zpC160, zpC161, zpC162, zpC181, zpC186] zpC187 zpP10 0 zpA187 [] 3000 = true := by decide +kernel
theorem zpT188 : zcheck zpZ zpRS zpMT [zpC89, zpC96, zpC97, zpC158, zpC187] zpC188 zpP10 0 zpA188 [] 3000 = true := by decide +kernel
theorem zpT189 : zcheck zpZ zpRS zpMT [zpC89, zpC96, zpC97, zpC158, zpC188] zpC189 zpP10 0 zpA189 [] 3000 = true := by decide +kernel
