theorem zpT580 : zcheck zpZ zpRS zpMT [zpC572] zpC580 zpP12 1 zpA580 [] 3000 = true := by decide +kernel
theorem zpT581 : zcheck zpZ zpRS zpMT [] zpC581 zpP12 2 zpA581 [] 3000 = true := by decide +kernel
theorem zpT582 : zcheck zpZ zpRS zpMT [zpC569, zpC570, zpC581] zpC582 zpP12 1 zpA582 [] 3000 = true := by decide +kernel
theorem zpT583 : zcheck zpZ zpRS zpMT [] zpC583 zpP12 2 zpA583 [] 3000 = true := by decide +kernel
theorem zpT584 : zcheck zpZ zpRS zpMT [zpC569, zpC570, zpC583] zpC584 zpP12 1 zpA584 [] 3000 = true := by decide +kernel
theorem zpT585 : zcheck zpZ zpRS zpMT [zpC572] zpC585 zpP12 1 zpA585 [] 3000 = true := by decide +kernel
theorem zpT586 : zcheck zpZ zpRS zpMT [zpC567] zpC586 zpP12 1 zpA586 [] 3000 = true := by decide +kernel
theorem zpT587 : zcheck zpZ zpRS zpMT [] zpC587 zpP12 2 zpA587 [] 3000 = true := by decide +kernel
theorem zpT588 : zcheck zpZ zpRS zpMT [zpC569, zpC570, zpC587] zpC588 zpP12 1 zpA588 [] 3000 = true := by decide +kernel
theorem zpT589 : zcheck zpZ zpRS zpMT [zpC569] zpC589 zpP12 2 zpA589 [] 3000 = true := by decide +kernel
theorem zpT590 : zcheck zpZ zpRS zpMT [] zpC590 zpP12 2 zpA590 [] 3000 = true := by decide +kernel
theorem zpT591 : zcheck zpZ zpRS zpMT [] zpC591 zpP12 2 zpA591 [] 3000 = true := by decide +kernel
theorem zpT592 : zcheck zpZ zpRS zpMT [zpC569] zpC592 zpP12 2 zpA592 [] 3000 = true := by decide +kernel
theorem zpT593 : zcheck zpZ zpRS zpMT [] zpC593 zpP12 2 zpA593 [] 3000 = true := by decide +kernel
theorem zpT594 : zcheck zpZ zpRS zpMT [] zpC594 zpP12 2 zpA594 [] 3000 = true := by decide +kernel
theorem zpT595 : zcheck zpZ zpRS zpMT [zpC569] zpC595 zpP12 2 zpA595 [] 3000 = true := by decide +kernel
theorem zpT596 : zcheck zpZ zpRS zpMT [zpC570, zpC595] zpC596 zpP12 0 zpA596 [] 3000 = true := by decide +kernel
theorem zpT597 : zcheck zpZ zpRS zpMT [] zpC597 zpP12 0 zpA597 [] 3000 = true := by decide +kernel
theorem zpT598 : zcheck zpZ zpRS zpMT [] zpC598 zpP12 0 zpA598 [] 3000 = true := by decide +kernel
theorem zpT599e : zrun zpZ zpRS zpP12 zpMT [zpC566, zpC568, zpC570, zpC571, zpC573, zpC574, zpC575, zpC576, zpC577, zpC579, zpC580, zpC582, zpC584, zpC585, zpC586, zpC588, zpC589, zpC590, zpC591, zpC592, zpC593, zpC594, zpC596, zpC597, zpC598] (zpC599.2.2.1.2.1.length, zpC599.2.2.2.1, zpC599.2.2.2.2, zpC599.2.1, 1) (zpMT zpC599.1).2.1 zpA599 [] none 3000 0 zpC599.2.2.1.2 = true := by decide +kernel
theorem zpT599h0 : zhead zpZ zpRS zpMT [zpC566, zpC568, zpC570, zpC571, zpC573, zpC574, zpC575, zpC576, zpC577, zpC579, zpC580, zpC582, zpC584, zpC585, zpC586, zpC588, zpC589, zpC590, zpC591, zpC592, zpC593, zpC594, zpC596, zpC597, zpC598] zpC599 zpP12 1 zpA599 [] 3000 zpA599h0 = true := by decide +kernel
theorem zpT599h1 : zhead zpZ zpRS zpMT [zpC566, zpC568, zpC570, zpC571, zpC573, zpC574, zpC575, zpC576, zpC577, zpC579, zpC580, zpC582, zpC584, zpC585, zpC586, zpC588, zpC589, zpC590, zpC591, zpC592, zpC593, zpC594, zpC596, zpC597, zpC598] zpC599 zpP12 1 zpA599 [] 3000 zpA599h1 = true := by decide +kernel
theorem zpT599h2 : zhead zpZ zpRS zpMT [zpC566, zpC568, zpC570, zpC571, zpC573, zpC574, zpC575, zpC576, zpC577, zpC579, zpC580, zpC582, zpC584, zpC585, zpC586, zpC588, zpC589, zpC590, zpC591, zpC592, zpC593, zpC594, zpC596, zpC597, zpC598] zpC599 zpP12 1 zpA599 [] 3000 zpA599h2 = true := by decide +kernel
theorem zpT599 : zcheck zpZ zpRS zpMT [zpC566, zpC568, zpC570, zpC571, zpC573, zpC574, zpC575, zpC576, zpC577, zpC579, zpC580, zpC582, zpC584, zpC585, zpC586, zpC588, zpC589, zpC590, zpC591, zpC592, zpC593, zpC594, zpC596, zpC597, zpC598] zpC599 zpP12 1 zpA599 [] 3000 = true := zcheck_of zpT599e (zall_cons zpT599h0 (zall_cons zpT599h1 (zall_cons zpT599h2 (zall_nil)))) (by decide +kernel)
theorem zpT600 : zcheck zpZ zpRS zpMT [] zpC600 zpP12 2 zpA600 [] 3000 = true := by decide +kernel
theorem zpT601e : zrun zpZ zpRS zpP12 zpMT [zpC520, zpC521, zpC553, zpC555, zpC566, zpC578, zpC600] (zpC601.2.2.1.2.1.length, zpC601.2.2.2.1, zpC601.2.2.2.2, zpC601.2.1, 1) (zpMT zpC601.1).2.1 zpA601 [(74, 4, 0, 12)] none 3000 0 zpC601.2.2.1.2 = true := by decide +kernel
theorem zpT601h0 : zhead zpZ zpRS zpMT [zpC520, zpC521, zpC553, zpC555, zpC566, zpC578, zpC600] zpC601 zpP12 1 zpA601 [(74, 4, 0, 12)] 3000 zpA601h0 = true := by decide +kernel
theorem zpT601h1 : zhead zpZ zpRS zpMT [zpC520, zpC521, zpC553, zpC555, zpC566, zpC578, zpC600] zpC601 zpP12 1 zpA601 [(74, 4, 0, 12)] 3000 zpA601h1 = true := by decide +kernel
theorem zpT601h2 : zhead zpZ zpRS zpMT [zpC520, zpC521, zpC553, zpC555, zpC566, zpC578, zpC600] zpC601 zpP12 1 zpA601 [(74, 4, 0, 12)] 3000 zpA601h2 = true := by decide +kernel
theorem zpT601h3 : zhead zpZ zpRS zpMT [zpC520, zpC521, zpC553, zpC555, zpC566, zpC578, zpC600] zpC601 zpP12 1 zpA601 [(74, 4, 0, 12)] 3000 zpA601h3 = true := by decide +kernel
theorem zpT601h4 : zhead zpZ zpRS zpMT [zpC520, zpC521, zpC553, zpC555, zpC566, zpC578, zpC600] zpC601 zpP12 1 zpA601 [(74, 4, 0, 12)] 3000 zpA601h4 = true := by decide +kernel
theorem zpT601h5 : zhead zpZ zpRS zpMT [zpC520, zpC521, zpC553, zpC555, zpC566, zpC578, zpC600] zpC601 zpP12 1 zpA601 [(74, 4, 0, 12)] 3000 zpA601h5 = true := by decide +kernel
theorem zpT601h6 : zhead zpZ zpRS zpMT [zpC520, zpC521, zpC553, zpC555, zpC566, zpC578, zpC600] zpC601 zpP12 1 zpA601 [(74, 4, 0, 12)] 3000 zpA601h6 = true := by decide +kernel
theorem zpT601h7 : zhead zpZ zpRS zpMT [zpC520, zpC521, zpC553, zpC555, zpC566, zpC578, zpC600] zpC601 zpP12 1 zpA601 [(74, 4, 0, 12)] 3000 zpA601h7 = true := by decide +kernel
theorem zpT601h8 : zhead zpZ zpRS zpMT [zpC520, zpC521, zpC553, zpC555, zpC566, zpC578, zpC600] zpC601 zpP12 1 zpA601 [(74, 4, 0, 12)] 3000 zpA601h8 = true := by decide +kernel
theorem zpT601h9 : zhead zpZ zpRS zpMT [zpC520, zpC521, zpC553, zpC555, zpC566, zpC578, zpC600] zpC601 zpP12 1 zpA601 [(74, 4, 0, 12)] 3000 zpA601h9 = true := by decide +kernel
theorem zpT601h10 : zhead zpZ zpRS zpMT [zpC520, zpC521, zpC553, zpC555, zpC566, zpC578, zpC600] zpC601 zpP12 1 zpA601 [(74, 4, 0, 12)] 3000 zpA601h10 = true := by decide +kernel
theorem zpT601h11 : zhead zpZ zpRS zpMT [zpC520, zpC521, zpC553, zpC555, zpC566, zpC578, zpC600] zpC601 zpP12 1 zpA601 [(74, 4, 0, 12)] 3000 zpA601h11 = true := by decide +kernel
theorem zpT601h12 : zhead zpZ zpRS zpMT [zpC520, zpC521, zpC553, zpC555, zpC566, zpC578, zpC600] zpC601 zpP12 1 zpA601 [(74, 4, 0, 12)] 3000 zpA601h12 = true := by decide +kernel
theorem zpT601h13 : zhead zpZ zpRS zpMT [zpC520, zpC521, zpC553, zpC555, zpC566, zpC578, zpC600] zpC601 zpP12 1 zpA601 [(74, 4, 0, 12)] 3000 zpA601h13 = true := by decide +kernel
theorem zpT601h14 : zhead zpZ zpRS zpMT [zpC520, zpC521, zpC553, zpC555, zpC566, zpC578, zpC600] zpC601 zpP12 1 zpA601 [(74, 4, 0, 12)] 3000 zpA601h14 = true := by decide +kernel
theorem zpT601h15 : zhead zpZ zpRS zpMT [zpC520, zpC521, zpC553, zpC555, zpC566, zpC578, zpC600] zpC601 zpP12 1 zpA601 [(74, 4, 0, 12)] 3000 zpA601h15 = true := by decide +kernel
theorem zpT601h16 : zhead zpZ zpRS zpMT [zpC520, zpC521, zpC553, zpC555, zpC566, zpC578, zpC600] zpC601 zpP12 1 zpA601 [(74, 4, 0, 12)] 3000 zpA601h16 = true := by decide +kernel
theorem zpT601h17 : zhead zpZ zpRS zpMT [zpC520, zpC521, zpC553, zpC555, zpC566, zpC578, zpC600] zpC601 zpP12 1 zpA601 [(74, 4, 0, 12)] 3000 zpA601h17 = true := by decide +kernel
theorem zpT601h18 : zhead zpZ zpRS zpMT [zpC520, zpC521, zpC553, zpC555, zpC566, zpC578, zpC600] zpC601 zpP12 1 zpA601 [(74, 4, 0, 12)] 3000 zpA601h18 = true := by decide +kernel
theorem zpT601h19 : zhead zpZ zpRS zpMT [zpC520, zpC521, zpC553, zpC555, zpC566, zpC578, zpC600] zpC601 zpP12 1 zpA601 [(74, 4, 0, 12)] 3000 zpA601h19 = true := by decide +kernel
theorem zpT601h20 : zhead zpZ zpRS zpMT [zpC520, zpC521, zpC553, zpC555, zpC566, zpC578, zpC600] zpC601 zpP12 1 zpA601 [(74, 4, 0, 12)] 3000 zpA601h20 = true := by decide +kernel
theorem zpT601h21 : zhead zpZ zpRS zpMT [zpC520, zpC521, zpC553, zpC555, zpC566, zpC578, zpC600] zpC601 zpP12 1 zpA601 [(74, 4, 0, 12)] 3000 zpA601h21 = true := by decide +kernel
theorem zpT601h22 : zhead zpZ zpRS zpMT [zpC520, zpC521, zpC553, zpC555, zpC566, zpC578, zpC600] zpC601 zpP12 1 zpA601 [(74, 4, 0, 12)] 3000 zpA601h22 = true := by decide +kernel
theorem zpT601h23 : zhead zpZ zpRS zpMT [zpC520, zpC521, zpC553, zpC555, zpC566, zpC578, zpC600] zpC601 zpP12 1 zpA601 [(74, 4, 0, 12)] 3000 zpA601h23 = true := by decide +kernel
theorem zpT601h24 : zhead zpZ zpRS zpMT [zpC520, zpC521, zpC553, zpC555, zpC566, zpC578, zpC600] zpC601 zpP12 1 zpA601 [(74, 4, 0, 12)] 3000 zpA601h24 = true := by decide +kernel
theorem zpT601h25 : zhead zpZ zpRS zpMT [zpC520, zpC521, zpC553, zpC555, zpC566, zpC578, zpC600] zpC601 zpP12 1 zpA601 [(74, 4, 0, 12)] 3000 zpA601h25 = true := by decide +kernel
theorem zpT601h26 : zhead zpZ zpRS zpMT [zpC520, zpC521, zpC553, zpC555, zpC566, zpC578, zpC600] zpC601 zpP12 1 zpA601 [(74, 4, 0, 12)] 3000 zpA601h26 = true := by decide +kernel
theorem zpT601h27 : zhead zpZ zpRS zpMT [zpC520, zpC521, zpC553, zpC555, zpC566, zpC578, zpC600] zpC601 zpP12 1 zpA601 [(74, 4, 0, 12)] 3000 zpA601h27 = true := by decide +kernel
theorem zpT601h28 : zhead zpZ zpRS zpMT [zpC520, zpC521, zpC553, zpC555, zpC566, zpC578, zpC600] zpC601 zpP12 1 zpA601 [(74, 4, 0, 12)] 3000 zpA601h28 = true := by decide +kernel
theorem zpT601h29 : zhead zpZ zpRS zpMT [zpC520, zpC521, zpC553, zpC555, zpC566, zpC578, zpC600] zpC601 zpP12 1 zpA601 [(74, 4, 0, 12)] 3000 zpA601h29 = true := by decide +kernel
theorem zpT601h30 : zhead zpZ zpRS zpMT [zpC520, zpC521, zpC553, zpC555, zpC566, zpC578, zpC600] zpC601 zpP12 1 zpA601 [(74, 4, 0, 12)] 3000 zpA601h30 = true := by decide +kernel
theorem zpT601h31 : zhead zpZ zpRS zpMT [zpC520, zpC521, zpC553, zpC555, zpC566, zpC578, zpC600] zpC601 zpP12 1 zpA601 [(74, 4, 0, 12)] 3000 zpA601h31 = true := by decide +kernel
theorem zpT601h32 : zhead zpZ zpRS zpMT [zpC520, zpC521, zpC553, zpC555, zpC566, zpC578, zpC600] zpC601 zpP12 1 zpA601 [(74, 4, 0, 12)] 3000 zpA601h32 = true := by decide +kernel
theorem zpT601h33 : zhead zpZ zpRS zpMT [zpC520, zpC521, zpC553, zpC555, zpC566, zpC578, zpC600] zpC601 zpP12 1 zpA601 [(74, 4, 0, 12)] 3000 zpA601h33 = true := by decide +kernel
theorem zpT601h34 : zhead zpZ zpRS zpMT [zpC520, zpC521, zpC553, zpC555, zpC566, zpC578, zpC600] zpC601 zpP12 1 zpA601 [(74, 4, 0, 12)] 3000 zpA601h34 = true := by decide +kernel
theorem zpT601h35 : zhead zpZ zpRS zpMT [zpC520, zpC521, zpC553, zpC555, zpC566, zpC578, zpC600] zpC601 zpP12 1 zpA601 [(74, 4, 0, 12)] 3000 zpA601h35 = true := by decide +kernel
theorem zpT601h36 : zhead zpZ zpRS zpMT [zpC520, zpC521, zpC553, zpC555, zpC566, zpC578, zpC600] zpC601 zpP12 1 zpA601 [(74, 4, 0, 12)] 3000 zpA601h36 = true := by decide +kernel
theorem zpT601h37 : zhead zpZ zpRS zpMT [zpC520, zpC521, zpC553, zpC555, zpC566, zpC578, zpC600] zpC601 zpP12 1 zpA601 [(74, 4, 0, 12)] 3000 zpA601h37 = true := by decide +kernel
theorem zpT601h38 : zhead zpZ zpRS zpMT [zpC520, zpC521, zpC553, zpC555, zpC566, zpC578, zpC600] zpC601 zpP12 1 zpA601 [(74, 4, 0, 12)] 3000 zpA601h38 = true := by decide +kernel
theorem zpT601h39 : zhead zpZ zpRS zpMT [zpC520, zpC521, zpC553, zpC555, zpC566, zpC578, zpC600] zpC601 zpP12 1 zpA601 [(74, 4, 0, 12)] 3000 zpA601h39 = true := by decide +kernel
theorem zpT601h40 : zhead zpZ zpRS zpMT [zpC520, zpC521, zpC553, zpC555, zpC566, zpC578, zpC600] zpC601 zpP12 1 zpA601 [(74, 4, 0, 12)] 3000 zpA601h40 = true := by decide +kernel
theorem zpT601h41 : zhead zpZ zpRS zpMT [zpC520, zpC521, zpC553, zpC555, zpC566, zpC578, zpC600] zpC601 zpP12 1 zpA601 [(74, 4, 0, 12)] 3000 zpA601h41 = true := by decide +kernel
theorem zpT601h42 : zhead zpZ zpRS zpMT [zpC520, zpC521, zpC553, zpC555, zpC566, zpC578, zpC600] zpC601 zpP12 1 zpA601 [(74, 4, 0, 12)] 3000 zpA601h42 = true := by decide +kernel
theorem zpT601h43 : zhead zpZ zpRS zpMT [zpC520, zpC521, zpC553, zpC555, zpC566, zpC578, zpC600] zpC601 zpP12 1 zpA601 [(74, 4, 0, 12)] 3000 zpA601h43 = true := by decide +kernel
theorem zpT601h44 : zhead zpZ zpRS zpMT [zpC520, zpC521, zpC553, zpC555, zpC566, zpC578, zpC600] zpC601 zpP12 1 zpA601 [(74, 4, 0, 12)] 3000 zpA601h44 = true := by decide +kernel
theorem zpT601h45 : zhead zpZ zpRS zpMT [zpC520, zpC521, zpC553, zpC555, zpC566, zpC578, zpC600] zpC601 zpP12 1 zpA601 [(74, 4, 0, 12)] 3000 zpA601h45 = true := by decide +kernel
theorem zpT601h46 : zhead zpZ zpRS zpMT [zpC520, zpC521, zpC553, zpC555, zpC566, zpC578, zpC600] zpC601 zpP12 1 zpA601 [(74, 4, 0, 12)] 3000 zpA601h46 = true := by decide +kernel
theorem zpT601h47 : zhead zpZ zpRS zpMT [zpC520, zpC521, zpC553, zpC555, zpC566, zpC578, zpC600] zpC601 zpP12 1 zpA601 [(74, 4, 0, 12)] 3000 zpA601h47 = true := by decide +kernel
theorem zpT601h48 : zhead zpZ zpRS zpMT [zpC520, zpC521, zpC553, zpC555, zpC566, zpC578, zpC600] zpC601 zpP12 1 zpA601 [(74, 4, 0, 12)] 3000 zpA601h48 = true := by decide +kernel
theorem zpT601 : zcheck zpZ zpRS zpMT [zpC520, zpC521, zpC553, zpC555, zpC566, zpC578, zpC600] zpC601 zpP12 1 zpA601 [(74, 4, 0, 12)] 3000 = true := zcheck_of zpT601e (zall_cons zpT601h0 (zall_cons zpT601h1 (zall_cons zpT601h2 (zall_cons zpT601h3 (zall_cons zpT601h4 (zall_cons zpT601h5 (zall_cons zpT601h6 (zall_cons zpT601h7 (zall_cons zpT601h8 (zall_cons zpT601h9 (zall_cons zpT601h10 (zall_cons zpT601h11 (zall_cons zpT601h12 (zall_cons zpT601h13 (zall_cons zpT601h14 (zall_cons zpT601h15 (zall_cons zpT601h16 (zall_cons zpT601h17 (zall_cons zpT601h18 (zall_cons zpT601h19 (zall_cons zpT601h20 (zall_cons zpT601h21 (zall_cons zpT601h22 (zall_cons zpT601h23 (zall_cons zpT601h24 (zall_cons zpT601h25 (zall_cons zpT601h26 (zall_cons zpT601h27 (zall_cons zpT601h28 (zall_cons zpT601h29 (zall_cons zpT601h30 (zall_cons zpT601h31 (zall_cons zpT601h32 (zall_cons zpT601h33 (zall_cons zpT601h34 (zall_cons zpT601h35 (zall_cons zpT601h36 (zall_cons zpT601h37 (zall_cons zpT601h38 (zall_cons zpT601h39 (zall_cons zpT601h40 (zall_cons zpT601h41 (zall_cons zpT601h42 (zall_cons zpT601h43 (zall_cons zpT601h44 (zall_cons zpT601h45 (zall_cons zpT601h46 (zall_cons zpT601h47 (zall_cons zpT601h48 (zall_nil)))))))))))))))))))))))))))))))))))))))))))))))))) (by decide +kernel)
theorem zpT602 : zcheck zpZ zpRS zpMT [] zpC602 zpP12 2 zpA602 [] 3000 = true := by decide +kernel
theorem zpT603 : zcheck zpZ zpRS zpMT [zpC602] zpC603 zpP12 1 zpA603 [] 3000 = true := by decide +kernel
theorem zpT604 : zcheck zpZ zpRS zpMT [] zpC604 zpP12 2 zpA604 [] 3000 = true := by decide +kernel
theorem zpT605 : zcheck zpZ zpRS zpMT [zpC604] zpC605 zpP12 2 zpA605 [] 3000 = true := by decide +kernel
