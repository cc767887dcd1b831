theorem zpT726h92 : zhead zpZ zpRS zpMT [zpC521] zpC726 zpP12 1 zpA726 [(66, 5, 0, 60)] 3000 zpA726h92 = true := by decide +kernel
theorem zpT726h93 : zhead zpZ zpRS zpMT [zpC521] zpC726 zpP12 1 zpA726 [(66, 5, 0, 60)] 3000 zpA726h93 = true := by decide +kernel
theorem zpT726h94 : zhead zpZ zpRS zpMT [zpC521] zpC726 zpP12 1 zpA726 [(66, 5, 0, 60)] 3000 zpA726h94 = true := by decide +kernel
theorem zpT726h95 : zhead zpZ zpRS zpMT [zpC521] zpC726 zpP12 1 zpA726 [(66, 5, 0, 60)] 3000 zpA726h95 = true := by decide +kernel
theorem zpT726h96 : zhead zpZ zpRS zpMT [zpC521] zpC726 zpP12 1 zpA726 [(66, 5, 0, 60)] 3000 zpA726h96 = true := by decide +kernel
theorem zpT726h97 : zhead zpZ zpRS zpMT [zpC521] zpC726 zpP12 1 zpA726 [(66, 5, 0, 60)] 3000 zpA726h97 = true := by decide +kernel
theorem zpT726h98 : zhead zpZ zpRS zpMT [zpC521] zpC726 zpP12 1 zpA726 [(66, 5, 0, 60)] 3000 zpA726h98 = true := by decide +kernel
theorem zpT726h99 : zhead zpZ zpRS zpMT [zpC521] zpC726 zpP12 1 zpA726 [(66, 5, 0, 60)] 3000 zpA726h99 = true := by decide +kernel
theorem zpT726h100 : zhead zpZ zpRS zpMT [zpC521] zpC726 zpP12 1 zpA726 [(66, 5, 0, 60)] 3000 zpA726h100 = true := by decide +kernel
theorem zpT726h101 : zhead zpZ zpRS zpMT [zpC521] zpC726 zpP12 1 zpA726 [(66, 5, 0, 60)] 3000 zpA726h101 = true := by decide +kernel
theorem zpT726h102 : zhead zpZ zpRS zpMT [zpC521] zpC726 zpP12 1 zpA726 [(66, 5, 0, 60)] 3000 zpA726h102 = true := by decide +kernel
theorem zpT726h103 : zhead zpZ zpRS zpMT [zpC521] zpC726 zpP12 1 zpA726 [(66, 5, 0, 60)] 3000 zpA726h103 = true := by decide +kernel
theorem zpT726h104 : zhead zpZ zpRS zpMT [zpC521] zpC726 zpP12 1 zpA726 [(66, 5, 0, 60)] 3000 zpA726h104 = true := by decide +kernel
theorem zpT726h105 : zhead zpZ zpRS zpMT [zpC521] zpC726 zpP12 1 zpA726 [(66, 5, 0, 60)] 3000 zpA726h105 = true := by decide +kernel
theorem zpT726h106 : zhead zpZ zpRS zpMT [zpC521] zpC726 zpP12 1 zpA726 [(66, 5, 0, 60)] 3000 zpA726h106 = true := by decide +kernel
theorem zpT726h107 : zhead zpZ zpRS zpMT [zpC521] zpC726 zpP12 1 zpA726 [(66, 5, 0, 60)] 3000 zpA726h107 = true := by decide +kernel
theorem zpT726h108 : zhead zpZ zpRS zpMT [zpC521] zpC726 zpP12 1 zpA726 [(66, 5, 0, 60)] 3000 zpA726h108 = true := by decide +kernel
theorem zpT726h109 : zhead zpZ zpRS zpMT [zpC521] zpC726 zpP12 1 zpA726 [(66, 5, 0, 60)] 3000 zpA726h109 = true := by decide +kernel
theorem zpT726h110 : zhead zpZ zpRS zpMT [zpC521] zpC726 zpP12 1 zpA726 [(66, 5, 0, 60)] 3000 zpA726h110 = true := by decide +kernel
theorem zpT726h111 : zhead zpZ zpRS zpMT [zpC521] zpC726 zpP12 1 zpA726 [(66, 5, 0, 60)] 3000 zpA726h111 = true := by decide +kernel
theorem zpT726h112 : zhead zpZ zpRS zpMT [zpC521] zpC726 zpP12 1 zpA726 [(66, 5, 0, 60)] 3000 zpA726h112 = true := by decide +kernel
theorem zpT726h113 : zhead zpZ zpRS zpMT [zpC521] zpC726 zpP12 1 zpA726 [(66, 5, 0, 60)] 3000 zpA726h113 = true := by decide +kernel
theorem zpT726h114 : zhead zpZ zpRS zpMT [zpC521] zpC726 zpP12 1 zpA726 [(66, 5, 0, 60)] 3000 zpA726h114 = true := by decide +kernel
theorem zpT726h115 : zhead zpZ zpRS zpMT [zpC521] zpC726 zpP12 1 zpA726 [(66, 5, 0, 60)] 3000 zpA726h115 = true := by decide +kernel
theorem zpT726h116 : zhead zpZ zpRS zpMT [zpC521] zpC726 zpP12 1 zpA726 [(66, 5, 0, 60)] 3000 zpA726h116 = true := by decide +kernel
theorem zpT726h117 : zhead zpZ zpRS zpMT [zpC521] zpC726 zpP12 1 zpA726 [(66, 5, 0, 60)] 3000 zpA726h117 = true := by decide +kernel
theorem zpT726h118 : zhead zpZ zpRS zpMT [zpC521] zpC726 zpP12 1 zpA726 [(66, 5, 0, 60)] 3000 zpA726h118 = true := by decide +kernel
theorem zpT726h119 : zhead zpZ zpRS zpMT [zpC521] zpC726 zpP12 1 zpA726 [(66, 5, 0, 60)] 3000 zpA726h119 = true := by decide +kernel
theorem zpT726h120 : zhead zpZ zpRS zpMT [zpC521] zpC726 zpP12 1 zpA726 [(66, 5, 0, 60)] 3000 zpA726h120 = true := by decide +kernel
theorem zpT726h121 : zhead zpZ zpRS zpMT [zpC521] zpC726 zpP12 1 zpA726 [(66, 5, 0, 60)] 3000 zpA726h121 = true := by decide +kernel
theorem zpT726h122 : zhead zpZ zpRS zpMT [zpC521] zpC726 zpP12 1 zpA726 [(66, 5, 0, 60)] 3000 zpA726h122 = true := by decide +kernel
theorem zpT726h123 : zhead zpZ zpRS zpMT [zpC521] zpC726 zpP12 1 zpA726 [(66, 5, 0, 60)] 3000 zpA726h123 = true := by decide +kernel
theorem zpT726h124 : zhead zpZ zpRS zpMT [zpC521] zpC726 zpP12 1 zpA726 [(66, 5, 0, 60)] 3000 zpA726h124 = true := by decide +kernel
theorem zpT726h125 : zhead zpZ zpRS zpMT [zpC521] zpC726 zpP12 1 zpA726 [(66, 5, 0, 60)] 3000 zpA726h125 = true := by decide +kernel
theorem zpT726h126 : zhead zpZ zpRS zpMT [zpC521] zpC726 zpP12 1 zpA726 [(66, 5, 0, 60)] 3000 zpA726h126 = true := by decide +kernel
theorem zpT726h127 : zhead zpZ zpRS zpMT [zpC521] zpC726 zpP12 1 zpA726 [(66, 5, 0, 60)] 3000 zpA726h127 = true := by decide +kernel
theorem zpT726h128 : zhead zpZ zpRS zpMT [zpC521] zpC726 zpP12 1 zpA726 [(66, 5, 0, 60)] 3000 zpA726h128 = true := by decide +kernel
theorem zpT726h129 : zhead zpZ zpRS zpMT [zpC521] zpC726 zpP12 1 zpA726 [(66, 5, 0, 60)] 3000 zpA726h129 = true := by decide +kernel
theorem zpT726h130 : zhead zpZ zpRS zpMT [zpC521] zpC726 zpP12 1 zpA726 [(66, 5, 0, 60)] 3000 zpA726h130 = true := by decide +kernel
theorem zpT726h131 : zhead zpZ zpRS zpMT [zpC521] zpC726 zpP12 1 zpA726 [(66, 5, 0, 60)] 3000 zpA726h131 = true := by decide +kernel
theorem zpT726h132 : zhead zpZ zpRS zpMT [zpC521] zpC726 zpP12 1 zpA726 [(66, 5, 0, 60)] 3000 zpA726h132 = true := by decide +kernel
theorem zpT726h133 : zhead zpZ zpRS zpMT [zpC521] zpC726 zpP12 1 zpA726 [(66, 5, 0, 60)] 3000 zpA726h133 = true := by decide +kernel
theorem zpT726h134 : zhead zpZ zpRS zpMT [zpC521] zpC726 zpP12 1 zpA726 [(66, 5, 0, 60)] 3000 zpA726h134 = true := by decide +kernel
theorem zpT726h135 : zhead zpZ zpRS zpMT [zpC521] zpC726 zpP12 1 zpA726 [(66, 5, 0, 60)] 3000 zpA726h135 = true := by decide +kernel
theorem zpT726h136 : zhead zpZ zpRS zpMT [zpC521] zpC726 zpP12 1 zpA726 [(66, 5, 0, 60)] 3000 zpA726h136 = true := by decide +kernel
theorem zpT726h137 : zhead zpZ zpRS zpMT [zpC521] zpC726 zpP12 1 zpA726 [(66, 5, 0, 60)] 3000 zpA726h137 = true := by decide +kernel
theorem zpT726h138 : zhead zpZ zpRS zpMT [zpC521] zpC726 zpP12 1 zpA726 [(66, 5, 0, 60)] 3000 zpA726h138 = true := by decide +kernel
theorem zpT726h139 : zhead zpZ zpRS zpMT [zpC521] zpC726 zpP12 1 zpA726 [(66, 5, 0, 60)] 3000 zpA726h139 = true := by decide +kernel
theorem zpT726h140 : zhead zpZ zpRS zpMT [zpC521] zpC726 zpP12 1 zpA726 [(66, 5, 0, 60)] 3000 zpA726h140 = true := by decide +kernel
theorem zpT726h141 : zhead zpZ zpRS zpMT [zpC521] zpC726 zpP12 1 zpA726 [(66, 5, 0, 60)] 3000 zpA726h141 = true := by decide +kernel
theorem zpT726h142 : zhead zpZ zpRS zpMT [zpC521] zpC726 zpP12 1 zpA726 [(66, 5, 0, 60)] 3000 zpA726h142 = true := by decide +kernel
theorem zpT726h143 : zhead zpZ zpRS zpMT [zpC521] zpC726 zpP12 1 zpA726 [(66, 5, 0, 60)] 3000 zpA726h143 = true := by decide +kernel
theorem zpT726h144 : zhead zpZ zpRS zpMT [zpC521] zpC726 zpP12 1 zpA726 [(66, 5, 0, 60)] 3000 zpA726h144 = true := by decide +kernel
theorem zpT726h145 : zhead zpZ zpRS zpMT [zpC521] zpC726 zpP12 1 zpA726 [(66, 5, 0, 60)] 3000 zpA726h145 = true := by decide +kernel
theorem zpT726h146 : zhead zpZ zpRS zpMT [zpC521] zpC726 zpP12 1 zpA726 [(66, 5, 0, 60)] 3000 zpA726h146 = true := by decide +kernel
theorem zpT726h147 : zhead zpZ zpRS zpMT [zpC521] zpC726 zpP12 1 zpA726 [(66, 5, 0, 60)] 3000 zpA726h147 = true := by decide +kernel
theorem zpT726h148 : zhead zpZ zpRS zpMT [zpC521] zpC726 zpP12 1 zpA726 [(66, 5, 0, 60)] 3000 zpA726h148 = true := by decide +kernel
theorem zpT726h149 : zhead zpZ zpRS zpMT [zpC521] zpC726 zpP12 1 zpA726 [(66, 5, 0, 60)] 3000 zpA726h149 = true := by decide +kernel
theorem zpT726h150 : zhead zpZ zpRS zpMT [zpC521] zpC726 zpP12 1 zpA726 [(66, 5, 0, 60)] 3000 zpA726h150 = true := by decide +kernel
theorem zpT726h151 : zhead zpZ zpRS zpMT [zpC521] zpC726 zpP12 1 zpA726 [(66, 5, 0, 60)] 3000 zpA726h151 = true := by decide +kernel
theorem zpT726h152 : zhead zpZ zpRS zpMT [zpC521] zpC726 zpP12 1 zpA726 [(66, 5, 0, 60)] 3000 zpA726h152 = true := by decide +kernel
theorem zpT726h153 : zhead zpZ zpRS zpMT [zpC521] zpC726 zpP12 1 zpA726 [(66, 5, 0, 60)] 3000 zpA726h153 = true := by decide +kernel
theorem zpT726h154 : zhead zpZ zpRS zpMT [zpC521] zpC726 zpP12 1 zpA726 [(66, 5, 0, 60)] 3000 zpA726h154 = true := by decide +kernel
theorem zpT726h155 : zhead zpZ zpRS zpMT [zpC521] zpC726 zpP12 1 zpA726 [(66, 5, 0, 60)] 3000 zpA726h155 = true := by decide +kernel
theorem zpT726h156 : zhead zpZ zpRS zpMT [zpC521] zpC726 zpP12 1 zpA726 [(66, 5, 0, 60)] 3000 zpA726h156 = true := by decide +kernel
theorem zpT726h157 : zhead zpZ zpRS zpMT [zpC521] zpC726 zpP12 1 zpA726 [(66, 5, 0, 60)] 3000 zpA726h157 = true := by decide +kernel
theorem zpT726h158 : zhead zpZ zpRS zpMT [zpC521] zpC726 zpP12 1 zpA726 [(66, 5, 0, 60)] 3000 zpA726h158 = true := by decide +kernel
theorem zpT726h159 : zhead zpZ zpRS zpMT [zpC521] zpC726 zpP12 1 zpA726 [(66, 5, 0, 60)] 3000 zpA726h159 = true := by decide +kernel
theorem zpT726h160 : zhead zpZ zpRS zpMT [zpC521] zpC726 zpP12 1 zpA726 [(66, 5, 0, 60)] 3000 zpA726h160 = true := by decide +kernel
theorem zpT726h161 : zhead zpZ zpRS zpMT [zpC521] zpC726 zpP12 1 zpA726 [(66, 5, 0, 60)] 3000 zpA726h161 = true := by decide +kernel
theorem zpT726h162 : zhead zpZ zpRS zpMT [zpC521] zpC726 zpP12 1 zpA726 [(66, 5, 0, 60)] 3000 zpA726h162 = true := by decide +kernel
theorem zpT726h163 : zhead zpZ zpRS zpMT [zpC521] zpC726 zpP12 1 zpA726 [(66, 5, 0, 60)] 3000 zpA726h163 = true := by decide +kernel
theorem zpT726h164 : zhead zpZ zpRS zpMT [zpC521] zpC726 zpP12 1 zpA726 [(66, 5, 0, 60)] 3000 zpA726h164 = true := by decide +kernel
theorem zpT726h165 : zhead zpZ zpRS zpMT [zpC521] zpC726 zpP12 1 zpA726 [(66, 5, 0, 60)] 3000 zpA726h165 = true := by decide +kernel
theorem zpT726h166 : zhead zpZ zpRS zpMT [zpC521] zpC726 zpP12 1 zpA726 [(66, 5, 0, 60)] 3000 zpA726h166 = true := by decide +kernel
theorem zpT726h167 : zhead zpZ zpRS zpMT [zpC521] zpC726 zpP12 1 zpA726 [(66, 5, 0, 60)] 3000 zpA726h167 = true := by decide +kernel
theorem zpT726h168 : zhead zpZ zpRS zpMT [zpC521] zpC726 zpP12 1 zpA726 [(66, 5, 0, 60)] 3000 zpA726h168 = true := by decide +kernel
theorem zpT726h169 : zhead zpZ zpRS zpMT [zpC521] zpC726 zpP12 1 zpA726 [(66, 5, 0, 60)] 3000 zpA726h169 = true := by decide +kernel
theorem zpT726h170 : zhead zpZ zpRS zpMT [zpC521] zpC726 zpP12 1 zpA726 [(66, 5, 0, 60)] 3000 zpA726h170 = true := by decide +kernel
theorem zpT726h171 : zhead zpZ zpRS zpMT [zpC521] zpC726 zpP12 1 zpA726 [(66, 5, 0, 60)] 3000 zpA726h171 = true := by decide +kernel
theorem zpT726h172 : zhead zpZ zpRS zpMT [zpC521] zpC726 zpP12 1 zpA726 [(66, 5, 0, 60)] 3000 zpA726h172 = true := by decide +kernel
theorem zpT726h173 : zhead zpZ zpRS zpMT [zpC521] zpC726 zpP12 1 zpA726 [(66, 5, 0, 60)] 3000 zpA726h173 = true := by decide +kernel
theorem zpT726h174 : zhead zpZ zpRS zpMT [zpC521] zpC726 zpP12 1 zpA726 [(66, 5, 0, 60)] 3000 zpA726h174 = true := by decide +kernel
theorem zpT726h175 : zhead zpZ zpRS zpMT [zpC521] zpC726 zpP12 1 zpA726 [(66, 5, 0, 60)] 3000 zpA726h175 = true := by decide +kernel
theorem zpT726h176 : zhead zpZ zpRS zpMT [zpC521] zpC726 zpP12 1 zpA726 [(66, 5, 0, 60)] 3000 zpA726h176 = true := by decide +kernel
theorem zpT726h177 : zhead zpZ zpRS zpMT [zpC521] zpC726 zpP12 1 zpA726 [(66, 5, 0, 60)] 3000 zpA726h177 = true := by decide +kernel
theorem zpT726h178 : zhead zpZ zpRS zpMT [zpC521] zpC726 zpP12 1 zpA726 [(66, 5, 0, 60)] 3000 zpA726h178 = true := by decide +kernel
theorem zpT726h179 : zhead zpZ zpRS zpMT [zpC521] zpC726 zpP12 1 zpA726 [(66, 5, 0, 60)] 3000 zpA726h179 = true := by decide +kernel
theorem zpT726h180 : zhead zpZ zpRS zpMT [zpC521] zpC726 zpP12 1 zpA726 [(66, 5, 0, 60)] 3000 zpA726h180 = true := by decide +kernel
theorem zpT726h181 : zhead zpZ zpRS zpMT [zpC521] zpC726 zpP12 1 zpA726 [(66, 5, 0, 60)] 3000 zpA726h181 = true := by decide +kernel
theorem zpT726h182 : zhead zpZ zpRS zpMT [zpC521] zpC726 zpP12 1 zpA726 [(66, 5, 0, 60)] 3000 zpA726h182 = true := by decide +kernel
theorem zpT726h183 : zhead zpZ zpRS zpMT [zpC521] zpC726 zpP12 1 zpA726 [(66, 5, 0, 60)] 3000 zpA726h183 = true := by decide +kernel
theorem zpT726 : zcheck zpZ zpRS zpMT [zpC521] zpC726 zpP12 1 zpA726 [(66, 5, 0, 60)] 3000 = true := zcheck_of zpT726e (zall_cons zpT726h0 (zall_cons zpT726h1 (zall_cons zpT726h2 (zall_cons zpT726h3 (zall_cons zpT726h4 (zall_cons zpT726h5 (zall_cons zpT726h6 (zall_cons zpT726h7 (zall_cons zpT726h8 (zall_cons zpT726h9 (zall_cons zpT726h10 (zall_cons zpT726h11 (zall_cons zpT726h12 (zall_cons zpT726h13 (zall_cons zpT726h14 (zall_cons zpT726h15 (zall_cons zpT726h16 (zall_cons zpT726h17 (zall_cons zpT726h18 (zall_cons zpT726h19 (zall_cons zpT726h20 (zall_cons zpT726h21 (zall_cons zpT726h22 (zall_cons zpT726h23 (zall_cons zpT726h24 (zall_cons zpT726h25 (zall_cons zpT726h26 (zall_cons zpT726h27 (zall_cons zpT726h28 (zall_cons zpT726h29 (zall_cons zpT726h30 (zall_cons zpT726h31 (zall_cons zpT726h32 (zall_cons zpT726h33 (zall_cons zpT726h34 (zall_cons zpT726h35 (zall_cons zpT726h36 (zall_cons zpT726h37 (zall_cons zpT726h38 (zall_cons zpT726h39 (zall_cons zpT726h40 (zall_cons zpT726h41 (zall_cons zpT726h42 (zall_cons zpT726h43 (zall_cons zpT726h44 (zall_cons zpT726h45 (zall_cons zpT726h46 (zall_cons zpT726h47 (zall_cons zpT726h48 (zall_cons zpT726h49 (zall_cons zpT726h50 (zall_cons zpT726h51 (zall_cons zpT726h52 (zall_cons zpT726h53 (zall_cons zpT726h54 (zall_cons zpT726h55 (zall_cons zpT726h56 (zall_cons zpT726h57 (zall_cons zpT726h58 (zall_cons zpT726h59 (zall_cons zpT726h60 (zall_cons zpT726h61 (zall_cons zpT726h62 (zall_cons zpT726h63 (zall_cons zpT726h64 (zall_cons zpT726h65 (zall_cons zpT726h66 (zall_cons zpT726h67 (zall_cons zpT726h68 (zall_cons zpT726h69 (zall_cons zpT726h70 (zall_cons zpT726h71 (zall_cons zpT726h72 (zall_cons zpT726h73 (zall_cons zpT726h74 (zall_cons zpT726h75 (zall_cons zpT726h76 (zall_cons zpT726h77 (zall_cons zpT726h78 (zall_cons zpT726h79 (zall_cons zpT726h80 (zall_cons zpT726h81 (zall_cons zpT726h82 (zall_cons zpT726h83 (zall_cons zpT726h84 (zall_cons zpT726h85 (zall_cons zpT726h86 (zall_cons zpT726h87 (zall_cons zpT726h88 (zall_cons zpT726h89 (zall_cons zpT726h90 (zall_cons zpT726h91 (zall_cons zpT726h92 (zall_cons zpT726h93 (zall_cons zpT726h94 (zall_cons zpT726h95 (zall_cons zpT726h96 (zall_cons zpT726h97 (zall_cons zpT726h98 (zall_cons zpT726h99 (zall_cons zpT726h100 (zall_cons zpT726h101 (zall_cons zpT726h102 (zall_cons zpT726h103 (zall_cons zpT726h104 (zall_cons zpT726h105 (zall_cons zpT726h106 (zall_cons zpT726h107 (zall_cons zpT726h108 (zall_cons zpT726h109 (zall_cons zpT726h110 (zall_cons zpT726h111 (zall_cons zpT726h112 (zall_cons zpT726h113 (zall_cons zpT726h114 (zall_cons zpT726h115 (zall_cons zpT726h116 (zall_cons zpT726h117 (zall_cons zpT726h118 (zall_cons zpT726h119 (zall_cons zpT726h120 (zall_cons zpT726h121 (zall_cons zpT726h122 (zall_cons zpT726h123 (zall_cons zpT726h124 (zall_cons zpT726h125 (zall_cons zpT726h126 (zall_cons zpT726h127 (zall_cons zpT726h128 (zall_cons zpT726h129 (zall_cons zpT726h130 (zall_cons zpT726h131 (zall_cons zpT726h132 (zall_cons zpT726h133 (zall_cons zpT726h134 (zall_cons zpT726h135 (zall_cons zpT726h136 (zall_cons zpT726h137 (zall_cons zpT726h138 (zall_cons zpT726h139 (zall_cons zpT726h140 (zall_cons zpT726h141 (zall_cons zpT726h142 (zall_cons zpT726h143 (zall_cons zpT726h144 (zall_cons zpT726h145 (zall_cons zpT726h146 (zall_cons zpT726h147 (zall_cons zpT726h148 (zall_cons zpT726h149 (zall_cons zpT726h150 (zall_cons zpT726h151 (zall_cons zpT726h152 (zall_cons zpT726h153 (zall_cons zpT726h154 (zall_cons zpT726h155 (zall_cons zpT726h156 (zall_cons zpT726h157 (zall_cons zpT726h158 (zall_cons zpT726h159 (zall_cons zpT726h160 (zall_cons zpT726h161 (zall_cons zpT726h162 (zall_cons zpT726h163 (zall_cons zpT726h164 (zall_cons zpT726h165 (zall_cons zpT726h166 (zall_cons zpT726h167 (zall_cons zpT726h168 (zall_cons zpT726h169 (zall_cons zpT726h170 (zall_cons zpT726h171 (zall_cons zpT726h172 (zall_cons zpT726h173 (zall_cons zpT726h174 (zall_cons zpT726h175 (zall_cons zpT726h176 (zall_cons zpT726h177 (zall_cons zpT726h178 (zall_cons zpT726h179 (zall_cons zpT726h180 (zall_cons zpT726h181 (zall_cons zpT726h182 (zall_cons zpT726h183 (zall_nil))))))))))))))))))))))))))))))))))))))))))))))))))))))))))))))))))))))))))))))))))))))))))))))))))))))))))))))))))))))))))))))))))))))))))))))))))))))))))))))))))))))))))))))))))))))))) (by decide +kernel)
theorem zpT727 : zcheck zpZ zpRS zpMT [] zpC727 zpP12 1 zpA727 [] 3000 = true := by decide +kernel
theorem zpT728 : zcheck zpZ zpRS zpMT [] zpC728 zpP12 1 zpA728 [] 3000 = true := by decide +kernel
theorem zpT729 : zcheck zpZ zpRS zpMT [] zpC729 zpP12 1 zpA729 [] 3000 = true := by decide +kernel
theorem zpT730 : zcheck zpZ zpRS zpMT [] zpC730 zpP12 1 zpA730 [] 3000 = true := by decide +kernel
theorem zpT731 : zcheck zpZ zpRS zpMT [] zpC731 zpP12 1 zpA731 [] 3000 = true := by decide +kernel
theorem zpT732 : zcheck zpZ zpRS zpMT [] zpC732 zpP12 1 zpA732 [] 3000 = true := by decide +kernel
theorem zpT733 : zcheck zpZ zpRS zpMT [] zpC733 zpP12 1 zpA733 [] 3000 = true := by decide +kernel
theorem zpT734 : zcheck zpZ zpRS zpMT [] zpC734 zpP12 1 zpA734 [] 3000 = true := by decide +kernel
theorem zpT735e : zrun zpZ zpRS zpP12 zpMT [zpC521, zpC578, zpC727, zpC728, zpC729, zpC730, zpC731, zpC732, zpC733, zpC734] (zpC735.2.2.1.2.1.length, zpC735.2.2.2.1, zpC735.2.2.2.2, zpC735.2.1, 1) (zpMT zpC735.1).2.1 zpA735 [(16, 1, 0, 5), (58, 3, (-9), 99)] none 3000 0 zpC735.2.2.1.2 = true := by decide +kernel
theorem zpT735h0 : zhead zpZ zpRS zpMT [zpC521, zpC578, zpC727, zpC728, zpC729, zpC730, zpC731, zpC732, zpC733, zpC734] zpC735 zpP12 1 zpA735 [(16, 1, 0, 5), (58, 3, (-9), 99)] 3000 zpA735h0 = true := by decide +kernel
theorem zpT735h1 : zhead zpZ zpRS zpMT [zpC521, zpC578, zpC727, zpC728, zpC729, zpC730, zpC731, zpC732, zpC733, zpC734] zpC735 zpP12 1 zpA735 [(16, 1, 0, 5), (58, 3, (-9), 99)] 3000 zpA735h1 = true := by decide +kernel
theorem zpT735h2 : zhead zpZ zpRS zpMT [zpC521, zpC578, zpC727, zpC728, zpC729, zpC730, zpC731, zpC732, zpC733, zpC734] zpC735 zpP12 1 zpA735 [(16, 1, 0, 5), (58, 3, (-9), 99)] 3000 zpA735h2 = true := by decide +kernel
theorem zpT735h3 : zhead zpZ zpRS zpMT [zpC521, zpC578, zpC727, zpC728, zpC729, zpC730, zpC731, zpC732, zpC733, zpC734] zpC735 zpP12 1 zpA735 [(16, 1, 0, 5), (58, 3, (-9), 99)] 3000 zpA735h3 = true := by decide +kernel
