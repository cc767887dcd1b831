theorem zpT694 : zcheck zpZ zpRS zpMT [zpC519, zpC613, zpC692] zpC694 zpP12 1 zpA694 [] 3000 = true := by decide +kernel
theorem zpT695 : zcheck zpZ zpRS zpMT [zpC558, zpC613, zpC692] zpC695 zpP12 1 zpA695 [] 3000 = true := by decide +kernel
theorem zpT696 : zcheck zpZ zpRS zpMT [zpC608, zpC613, zpC692] zpC696 zpP12 1 zpA696 [] 3000 = true := by decide +kernel
theorem zpT697 : zcheck zpZ zpRS zpMT [zpC611] zpC697 zpP12 1 zpA697 [] 3000 = true := by decide +kernel
theorem zpT698 : zcheck zpZ zpRS zpMT [] zpC698 zpP12 2 zpA698 [] 3000 = true := by decide +kernel
theorem zpT699 : zcheck zpZ zpRS zpMT [zpC553, zpC558, zpC603, zpC605, zpC606, zpC611, zpC613, zpC698] zpC699 zpP12 1 zpA699 [] 3000 = true := by decide +kernel
theorem zpT700 : zcheck zpZ zpRS zpMT [] zpC700 zpP12 1 zpA700 [] 3000 = true := by decide +kernel
theorem zpT701 : zcheck zpZ zpRS zpMT [] zpC701 zpP12 2 zpA701 [] 3000 = true := by decide +kernel
theorem zpT702 : zcheck zpZ zpRS zpMT [zpC611, zpC613, zpC700, zpC701] zpC702 zpP12 1 zpA702 [] 3000 = true := by decide +kernel
theorem zpT703e : zrun zpZ zpRS zpP12 zpMT [zpC581, zpC604, zpC611] (zpC703.2.2.1.2.1.length, zpC703.2.2.2.1, zpC703.2.2.2.2, zpC703.2.1, 1) (zpMT zpC703.1).2.1 zpA703 [] none 3000 0 zpC703.2.2.1.2 = true := by decide +kernel
theorem zpT703h0 : zhead zpZ zpRS zpMT [zpC581, zpC604, zpC611] zpC703 zpP12 1 zpA703 [] 3000 zpA703h0 = true := by decide +kernel
theorem zpT703h1 : zhead zpZ zpRS zpMT [zpC581, zpC604, zpC611] zpC703 zpP12 1 zpA703 [] 3000 zpA703h1 = true := by decide +kernel
theorem zpT703 : zcheck zpZ zpRS zpMT [zpC581, zpC604, zpC611] zpC703 zpP12 1 zpA703 [] 3000 = true := zcheck_of zpT703e (zall_cons zpT703h0 (zall_cons zpT703h1 (zall_nil))) (by decide +kernel)
theorem zpT704 : zcheck zpZ zpRS zpMT [zpC558, zpC606, zpC607, zpC611] zpC704 zpP12 1 zpA704 [] 3000 = true := by decide +kernel
theorem zpT705 : zcheck zpZ zpRS zpMT [] zpC705 zpP12 1 zpA705 [] 3000 = true := by decide +kernel
theorem zpT706 : zcheck zpZ zpRS zpMT [] zpC706 zpP12 1 zpA706 [] 3000 = true := by decide +kernel
theorem zpT707 : zcheck zpZ zpRS zpMT [] zpC707 zpP12 0 zpA707 [] 3000 = true := by decide +kernel
theorem zpT708 : zcheck zpZ zpRS zpMT [zpC707] zpC708 zpP12 1 zpA708 [] 3000 = true := by decide +kernel
theorem zpT709 : zcheck zpZ zpRS zpMT [zpC707] zpC709 zpP12 1 zpA709 [] 3000 = true := by decide +kernel
theorem zpT710 : zcheck zpZ zpRS zpMT [zpC707, zpC709] zpC710 zpP12 1 zpA710 [] 3000 = true := by decide +kernel
theorem zpT711 : zcheck zpZ zpRS zpMT [zpC707, zpC709] zpC711 zpP12 1 zpA711 [] 3000 = true := by decide +kernel
theorem zpT712 : zcheck zpZ zpRS zpMT [zpC707, zpC709, zpC710, zpC711] zpC712 zpP12 1 zpA712 [] 3000 = true := by decide +kernel
theorem zpT713 : zcheck zpZ zpRS zpMT [zpC707, zpC708, zpC712] zpC713 zpP12 1 zpA713 [] 3000 = true := by decide +kernel
theorem zpT714 : zcheck zpZ zpRS zpMT [zpC707, zpC712] zpC714 zpP12 1 zpA714 [] 3000 = true := by decide +kernel
theorem zpT715 : zcheck zpZ zpRS zpMT [zpC707, zpC714] zpC715 zpP12 1 zpA715 [] 3000 = true := by decide +kernel
theorem zpT716 : zcheck zpZ zpRS zpMT [zpC707, zpC712, zpC713, zpC714, zpC715] zpC716 zpP12 1 zpA716 [] 3000 = true := by decide +kernel
theorem zpT717 : zcheck zpZ zpRS zpMT [zpC707, zpC713, zpC716] zpC717 zpP12 1 zpA717 [] 3000 = true := by decide +kernel
theorem zpT718 : zcheck zpZ zpRS zpMT [zpC707, zpC713, zpC716, zpC717] zpC718 zpP12 1 zpA718 [] 3000 = true := by decide +kernel
theorem zpT719 : zcheck zpZ zpRS zpMT [zpC519, zpC712, zpC713, zpC716, zpC718] zpC719 zpP12 1 zpA719 [] 3000 = true := by decide +kernel
theorem zpT720 : zcheck zpZ zpRS zpMT [] zpC720 zpP12 1 zpA720 [] 3000 = true := by decide +kernel
theorem zpT721 : zcheck zpZ zpRS zpMT [zpC519, zpC521] zpC721 zpP12 1 zpA721 [] 3000 = true := by decide +kernel
theorem zpT722 : zcheck zpZ zpRS zpMT [zpC521, zpC530] zpC722 zpP12 1 zpA722 [] 3000 = true := by decide +kernel
theorem zpT723 : zcheck zpZ zpRS zpMT [zpC521] zpC723 zpP12 1 zpA723 [] 3000 = true := by decide +kernel
theorem zpT724 : zcheck zpZ zpRS zpMT [zpC539, zpC723] zpC724 zpP12 1 zpA724 [] 3000 = true := by decide +kernel
theorem zpT725 : zcheck zpZ zpRS zpMT [zpC723] zpC725 zpP12 3 zpA725 [] 3000 = true := by decide +kernel
theorem zpT726e : zrun zpZ zpRS zpP12 zpMT [zpC521] (zpC726.2.2.1.2.1.length, zpC726.2.2.2.1, zpC726.2.2.2.2, zpC726.2.1, 1) (zpMT zpC726.1).2.1 zpA726 [(66, 5, 0, 60)] none 3000 0 zpC726.2.2.1.2 = true := by decide +kernel
theorem zpT726h0 : zhead zpZ zpRS zpMT [zpC521] zpC726 zpP12 1 zpA726 [(66, 5, 0, 60)] 3000 zpA726h0 = true := by decide +kernel
theorem zpT726h1 : zhead zpZ zpRS zpMT [zpC521] zpC726 zpP12 1 zpA726 [(66, 5, 0, 60)] 3000 zpA726h1 = true := by decide +kernel
theorem zpT726h2 : zhead zpZ zpRS zpMT [zpC521] zpC726 zpP12 1 zpA726 [(66, 5, 0, 60)] 3000 zpA726h2 = true := by decide +kernel
theorem zpT726h3 : zhead zpZ zpRS zpMT [zpC521] zpC726 zpP12 1 zpA726 [(66, 5, 0, 60)] 3000 zpA726h3 = true := by decide +kernel
theorem zpT726h4 : zhead zpZ zpRS zpMT [zpC521] zpC726 zpP12 1 zpA726 [(66, 5, 0, 60)] 3000 zpA726h4 = true := by decide +kernel
theorem zpT726h5 : zhead zpZ zpRS zpMT [zpC521] zpC726 zpP12 1 zpA726 [(66, 5, 0, 60)] 3000 zpA726h5 = true := by decide +kernel
theorem zpT726h6 : zhead zpZ zpRS zpMT [zpC521] zpC726 zpP12 1 zpA726 [(66, 5, 0, 60)] 3000 zpA726h6 = true := by decide +kernel
theorem zpT726h7 : zhead zpZ zpRS zpMT [zpC521] zpC726 zpP12 1 zpA726 [(66, 5, 0, 60)] 3000 zpA726h7 = true := by decide +kernel
theorem zpT726h8 : zhead zpZ zpRS zpMT [zpC521] zpC726 zpP12 1 zpA726 [(66, 5, 0, 60)] 3000 zpA726h8 = true := by decide +kernel
theorem zpT726h9 : zhead zpZ zpRS zpMT [zpC521] zpC726 zpP12 1 zpA726 [(66, 5, 0, 60)] 3000 zpA726h9 = true := by decide +kernel
theorem zpT726h10 : zhead zpZ zpRS zpMT [zpC521] zpC726 zpP12 1 zpA726 [(66, 5, 0, 60)] 3000 zpA726h10 = true := by decide +kernel
theorem zpT726h11 : zhead zpZ zpRS zpMT [zpC521] zpC726 zpP12 1 zpA726 [(66, 5, 0, 60)] 3000 zpA726h11 = true := by decide +kernel
theorem zpT726h12 : zhead zpZ zpRS zpMT [zpC521] zpC726 zpP12 1 zpA726 [(66, 5, 0, 60)] 3000 zpA726h12 = true := by decide +kernel
theorem zpT726h13 : zhead zpZ zpRS zpMT [zpC521] zpC726 zpP12 1 zpA726 [(66, 5, 0, 60)] 3000 zpA726h13 = true := by decide +kernel
theorem zpT726h14 : zhead zpZ zpRS zpMT [zpC521] zpC726 zpP12 1 zpA726 [(66, 5, 0, 60)] 3000 zpA726h14 = true := by decide +kernel
theorem zpT726h15 : zhead zpZ zpRS zpMT [zpC521] zpC726 zpP12 1 zpA726 [(66, 5, 0, 60)] 3000 zpA726h15 = true := by decide +kernel
theorem zpT726h16 : zhead zpZ zpRS zpMT [zpC521] zpC726 zpP12 1 zpA726 [(66, 5, 0, 60)] 3000 zpA726h16 = true := by decide +kernel
theorem zpT726h17 : zhead zpZ zpRS zpMT [zpC521] zpC726 zpP12 1 zpA726 [(66, 5, 0, 60)] 3000 zpA726h17 = true := by decide +kernel
theorem zpT726h18 : zhead zpZ zpRS zpMT [zpC521] zpC726 zpP12 1 zpA726 [(66, 5, 0, 60)] 3000 zpA726h18 = true := by decide +kernel
theorem zpT726h19 : zhead zpZ zpRS zpMT [zpC521] zpC726 zpP12 1 zpA726 [(66, 5, 0, 60)] 3000 zpA726h19 = true := by decide +kernel
theorem zpT726h20 : zhead zpZ zpRS zpMT [zpC521] zpC726 zpP12 1 zpA726 [(66, 5, 0, 60)] 3000 zpA726h20 = true := by decide +kernel
theorem zpT726h21 : zhead zpZ zpRS zpMT [zpC521] zpC726 zpP12 1 zpA726 [(66, 5, 0, 60)] 3000 zpA726h21 = true := by decide +kernel
theorem zpT726h22 : zhead zpZ zpRS zpMT [zpC521] zpC726 zpP12 1 zpA726 [(66, 5, 0, 60)] 3000 zpA726h22 = true := by decide +kernel
theorem zpT726h23 : zhead zpZ zpRS zpMT [zpC521] zpC726 zpP12 1 zpA726 [(66, 5, 0, 60)] 3000 zpA726h23 = true := by decide +kernel
theorem zpT726h24 : zhead zpZ zpRS zpMT [zpC521] zpC726 zpP12 1 zpA726 [(66, 5, 0, 60)] 3000 zpA726h24 = true := by decide +kernel
theorem zpT726h25 : zhead zpZ zpRS zpMT [zpC521] zpC726 zpP12 1 zpA726 [(66, 5, 0, 60)] 3000 zpA726h25 = true := by decide +kernel
theorem zpT726h26 : zhead zpZ zpRS zpMT [zpC521] zpC726 zpP12 1 zpA726 [(66, 5, 0, 60)] 3000 zpA726h26 = true := by decide +kernel
theorem zpT726h27 : zhead zpZ zpRS zpMT [zpC521] zpC726 zpP12 1 zpA726 [(66, 5, 0, 60)] 3000 zpA726h27 = true := by decide +kernel
theorem zpT726h28 : zhead zpZ zpRS zpMT [zpC521] zpC726 zpP12 1 zpA726 [(66, 5, 0, 60)] 3000 zpA726h28 = true := by decide +kernel
theorem zpT726h29 : zhead zpZ zpRS zpMT [zpC521] zpC726 zpP12 1 zpA726 [(66, 5, 0, 60)] 3000 zpA726h29 = true := by decide +kernel
theorem zpT726h30 : zhead zpZ zpRS zpMT [zpC521] zpC726 zpP12 1 zpA726 [(66, 5, 0, 60)] 3000 zpA726h30 = true := by decide +kernel
theorem zpT726h31 : zhead zpZ zpRS zpMT [zpC521] zpC726 zpP12 1 zpA726 [(66, 5, 0, 60)] 3000 zpA726h31 = true := by decide +kernel
theorem zpT726h32 : zhead zpZ zpRS zpMT [zpC521] zpC726 zpP12 1 zpA726 [(66, 5, 0, 60)] 3000 zpA726h32 = true := by decide +kernel
theorem zpT726h33 : zhead zpZ zpRS zpMT [zpC521] zpC726 zpP12 1 zpA726 [(66, 5, 0, 60)] 3000 zpA726h33 = true := by decide +kernel
theorem zpT726h34 : zhead zpZ zpRS zpMT [zpC521] zpC726 zpP12 1 zpA726 [(66, 5, 0, 60)] 3000 zpA726h34 = true := by decide +kernel
theorem zpT726h35 : zhead zpZ zpRS zpMT [zpC521] zpC726 zpP12 1 zpA726 [(66, 5, 0, 60)] 3000 zpA726h35 = true := by decide +kernel
theorem zpT726h36 : zhead zpZ zpRS zpMT [zpC521] zpC726 zpP12 1 zpA726 [(66, 5, 0, 60)] 3000 zpA726h36 = true := by decide +kernel
theorem zpT726h37 : zhead zpZ zpRS zpMT [zpC521] zpC726 zpP12 1 zpA726 [(66, 5, 0, 60)] 3000 zpA726h37 = true := by decide +kernel
theorem zpT726h38 : zhead zpZ zpRS zpMT [zpC521] zpC726 zpP12 1 zpA726 [(66, 5, 0, 60)] 3000 zpA726h38 = true := by decide +kernel
theorem zpT726h39 : zhead zpZ zpRS zpMT [zpC521] zpC726 zpP12 1 zpA726 [(66, 5, 0, 60)] 3000 zpA726h39 = true := by decide +kernel
theorem zpT726h40 : zhead zpZ zpRS zpMT [zpC521] zpC726 zpP12 1 zpA726 [(66, 5, 0, 60)] 3000 zpA726h40 = true := by decide +kernel
theorem zpT726h41 : zhead zpZ zpRS zpMT [zpC521] zpC726 zpP12 1 zpA726 [(66, 5, 0, 60)] 3000 zpA726h41 = true := by decide +kernel
theorem zpT726h42 : zhead zpZ zpRS zpMT [zpC521] zpC726 zpP12 1 zpA726 [(66, 5, 0, 60)] 3000 zpA726h42 = true := by decide +kernel
theorem zpT726h43 : zhead zpZ zpRS zpMT [zpC521] zpC726 zpP12 1 zpA726 [(66, 5, 0, 60)] 3000 zpA726h43 = true := by decide +kernel
theorem zpT726h44 : zhead zpZ zpRS zpMT [zpC521] zpC726 zpP12 1 zpA726 [(66, 5, 0, 60)] 3000 zpA726h44 = true := by decide +kernel
theorem zpT726h45 : zhead zpZ zpRS zpMT [zpC521] zpC726 zpP12 1 zpA726 [(66, 5, 0, 60)] 3000 zpA726h45 = true := by decide +kernel
theorem zpT726h46 : zhead zpZ zpRS zpMT [zpC521] zpC726 zpP12 1 zpA726 [(66, 5, 0, 60)] 3000 zpA726h46 = true := by decide +kernel
theorem zpT726h47 : zhead zpZ zpRS zpMT [zpC521] zpC726 zpP12 1 zpA726 [(66, 5, 0, 60)] 3000 zpA726h47 = true := by decide +kernel
theorem zpT726h48 : zhead zpZ zpRS zpMT [zpC521] zpC726 zpP12 1 zpA726 [(66, 5, 0, 60)] 3000 zpA726h48 = true := by decide +kernel
theorem zpT726h49 : zhead zpZ zpRS zpMT [zpC521] zpC726 zpP12 1 zpA726 [(66, 5, 0, 60)] 3000 zpA726h49 = true := by decide +kernel
theorem zpT726h50 : zhead zpZ zpRS zpMT [zpC521] zpC726 zpP12 1 zpA726 [(66, 5, 0, 60)] 3000 zpA726h50 = true := by decide +kernel
theorem zpT726h51 : zhead zpZ zpRS zpMT [zpC521] zpC726 zpP12 1 zpA726 [(66, 5, 0, 60)] 3000 zpA726h51 = true := by decide +kernel
theorem zpT726h52 : zhead zpZ zpRS zpMT [zpC521] zpC726 zpP12 1 zpA726 [(66, 5, 0, 60)] 3000 zpA726h52 = true := by decide +kernel
theorem zpT726h53 : zhead zpZ zpRS zpMT [zpC521] zpC726 zpP12 1 zpA726 [(66, 5, 0, 60)] 3000 zpA726h53 = true := by decide +kernel
theorem zpT726h54 : zhead zpZ zpRS zpMT [zpC521] zpC726 zpP12 1 zpA726 [(66, 5, 0, 60)] 3000 zpA726h54 = true := by decide +kernel
theorem zpT726h55 : zhead zpZ zpRS zpMT [zpC521] zpC726 zpP12 1 zpA726 [(66, 5, 0, 60)] 3000 zpA726h55 = true := by decide +kernel
theorem zpT726h56 : zhead zpZ zpRS zpMT [zpC521] zpC726 zpP12 1 zpA726 [(66, 5, 0, 60)] 3000 zpA726h56 = true := by decide +kernel
theorem zpT726h57 : zhead zpZ zpRS zpMT [zpC521] zpC726 zpP12 1 zpA726 [(66, 5, 0, 60)] 3000 zpA726h57 = true := by decide +kernel
theorem zpT726h58 : zhead zpZ zpRS zpMT [zpC521] zpC726 zpP12 1 zpA726 [(66, 5, 0, 60)] 3000 zpA726h58 = true := by decide +kernel
theorem zpT726h59 : zhead zpZ zpRS zpMT [zpC521] zpC726 zpP12 1 zpA726 [(66, 5, 0, 60)] 3000 zpA726h59 = true := by decide +kernel
theorem zpT726h60 : zhead zpZ zpRS zpMT [zpC521] zpC726 zpP12 1 zpA726 [(66, 5, 0, 60)] 3000 zpA726h60 = true := by decide +kernel
theorem zpT726h61 : zhead zpZ zpRS zpMT [zpC521] zpC726 zpP12 1 zpA726 [(66, 5, 0, 60)] 3000 zpA726h61 = true := by decide +kernel
theorem zpT726h62 : zhead zpZ zpRS zpMT [zpC521] zpC726 zpP12 1 zpA726 [(66, 5, 0, 60)] 3000 zpA726h62 = true := by decide +kernel
theorem zpT726h63 : zhead zpZ zpRS zpMT [zpC521] zpC726 zpP12 1 zpA726 [(66, 5, 0, 60)] 3000 zpA726h63 = true := by decide +kernel
theorem zpT726h64 : zhead zpZ zpRS zpMT [zpC521] zpC726 zpP12 1 zpA726 [(66, 5, 0, 60)] 3000 zpA726h64 = true := by decide +kernel
theorem zpT726h65 : zhead zpZ zpRS zpMT [zpC521] zpC726 zpP12 1 zpA726 [(66, 5, 0, 60)] 3000 zpA726h65 = true := by decide +kernel
theorem zpT726h66 : zhead zpZ zpRS zpMT [zpC521] zpC726 zpP12 1 zpA726 [(66, 5, 0, 60)] 3000 zpA726h66 = true := by decide +kernel
theorem zpT726h67 : zhead zpZ zpRS zpMT [zpC521] zpC726 zpP12 1 zpA726 [(66, 5, 0, 60)] 3000 zpA726h67 = true := by decide +kernel
theorem zpT726h68 : zhead zpZ zpRS zpMT [zpC521] zpC726 zpP12 1 zpA726 [(66, 5, 0, 60)] 3000 zpA726h68 = true := by decide +kernel
theorem zpT726h69 : zhead zpZ zpRS zpMT [zpC521] zpC726 zpP12 1 zpA726 [(66, 5, 0, 60)] 3000 zpA726h69 = true := by decide +kernel
theorem zpT726h70 : zhead zpZ zpRS zpMT [zpC521] zpC726 zpP12 1 zpA726 [(66, 5, 0, 60)] 3000 zpA726h70 = true := by decide +kernel
theorem zpT726h71 : zhead zpZ zpRS zpMT [zpC521] zpC726 zpP12 1 zpA726 [(66, 5, 0, 60)] 3000 zpA726h71 = true := by decide +kernel
theorem zpT726h72 : zhead zpZ zpRS zpMT [zpC521] zpC726 zpP12 1 zpA726 [(66, 5, 0, 60)] 3000 zpA726h72 = true := by decide +kernel
theorem zpT726h73 : zhead zpZ zpRS zpMT [zpC521] zpC726 zpP12 1 zpA726 [(66, 5, 0, 60)] 3000 zpA726h73 = true := by decide +kernel
theorem zpT726h74 : zhead zpZ zpRS zpMT [zpC521] zpC726 zpP12 1 zpA726 [(66, 5, 0, 60)] 3000 zpA726h74 = true := by decide +kernel
theorem zpT726h75 : zhead zpZ zpRS zpMT [zpC521] zpC726 zpP12 1 zpA726 [(66, 5, 0, 60)] 3000 zpA726h75 = true := by decide +kernel
theorem zpT726h76 : zhead zpZ zpRS zpMT [zpC521] zpC726 zpP12 1 zpA726 [(66, 5, 0, 60)] 3000 zpA726h76 = true := by decide +kernel
theorem zpT726h77 : zhead zpZ zpRS zpMT [zpC521] zpC726 zpP12 1 zpA726 [(66, 5, 0, 60)] 3000 zpA726h77 = true := by decide +kernel
theorem zpT726h78 : zhead zpZ zpRS zpMT [zpC521] zpC726 zpP12 1 zpA726 [(66, 5, 0, 60)] 3000 zpA726h78 = true := by decide +kernel
theorem zpT726h79 : zhead zpZ zpRS zpMT [zpC521] zpC726 zpP12 1 zpA726 [(66, 5, 0, 60)] 3000 zpA726h79 = true := by decide +kernel
theorem zpT726h80 : zhead zpZ zpRS zpMT [zpC521] zpC726 zpP12 1 zpA726 [(66, 5, 0, 60)] 3000 zpA726h80 = true := by decide +kernel
theorem zpT726h81 : zhead zpZ zpRS zpMT [zpC521] zpC726 zpP12 1 zpA726 [(66, 5, 0, 60)] 3000 zpA726h81 = true := by decide +kernel
theorem zpT726h82 : zhead zpZ zpRS zpMT [zpC521] zpC726 zpP12 1 zpA726 [(66, 5, 0, 60)] 3000 zpA726h82 = true := by decide +kernel
theorem zpT726h83 : zhead zpZ zpRS zpMT [zpC521] zpC726 zpP12 1 zpA726 [(66, 5, 0, 60)] 3000 zpA726h83 = true := by decide +kernel
theorem zpT726h84 : zhead zpZ zpRS zpMT [zpC521] zpC726 zpP12 1 zpA726 [(66, 5, 0, 60)] 3000 zpA726h84 = true := by decide +kernel
theorem zpT726h85 : zhead zpZ zpRS zpMT [zpC521] zpC726 zpP12 1 zpA726 [(66, 5, 0, 60)] 3000 zpA726h85 = true := by decide +kernel
theorem zpT726h86 : zhead zpZ zpRS zpMT [zpC521] zpC726 zpP12 1 zpA726 [(66, 5, 0, 60)] 3000 zpA726h86 = true := by decide +kernel
theorem zpT726h87 : zhead zpZ zpRS zpMT [zpC521] zpC726 zpP12 1 zpA726 [(66, 5, 0, 60)] 3000 zpA726h87 = true := by decide +kernel
theorem zpT726h88 : zhead zpZ zpRS zpMT [zpC521] zpC726 zpP12 1 zpA726 [(66, 5, 0, 60)] 3000 zpA726h88 = true := by decide +kernel
theorem zpT726h89 : zhead zpZ zpRS zpMT [zpC521] zpC726 zpP12 1 zpA726 [(66, 5, 0, 60)] 3000 zpA726h89 = true := by decide +kernel
theorem zpT726h90 : zhead zpZ zpRS zpMT [zpC521] zpC726 zpP12 1 zpA726 [(66, 5, 0, 60)] 3000 zpA726h90 = true := by decide +kernel
theorem zpT726h91 : zhead zpZ zpRS zpMT [zpC521] zpC726 zpP12 1 zpA726 [(66, 5, 0, 60)] 3000 zpA726h91 = true := by decide +kernel
